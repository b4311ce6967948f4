/-! ===== walks 16 (written by wip/whole/gen_walk.py, emit_walk.py) ===== -/
def f_X8_decisions (σ : k_S) (i0 : Nat) : Option (Int32 × k_S) :=
  some ((k_I σ 1 (i0) (29), (k_uI σ 1 (i0) (0) (0))))
theorem j_X8_decisions (la : Launch) (hla : la.flags = flags0) (G : k_G) (σ : k_S) (i0 : Nat) (x : (Int32 × k_S)) (hoc : f_X8_decisions σ i0 = some x) : k_Ct la G yX8_decisions (k_ws yX8_decisions cX8_decisions 1 (Option.some ClassFile.FieldType.int)) { frames := 0, cells := 0, slots := 0, locals := 1 } [k_p 1 (i0)] σ (.inl (k_mI x.1, x.2)) 0 0 := by
  refine k_body hla (by decide +kernel) (k_wl rfl) (Nat.le_of_ble_eq_true rfl) (fun X h hEn hMe => ?_)
  show k_W X σ 0 0 0 [some (k_p 1 (i0))] []
  unfold f_X8_decisions at hoc
  refine r_aload_n h dX8_decisions_0 rfl ?_
  refine r_iconst (v := 0) h dX8_decisions_1 (by decide) ?_
  refine r_putI (x := 0) h kp_X8_84 dX8_decisions_2 rfl rfl (by decide) rfl rfl (k_fit_int _) ?_
  refine r_aload_n h dX8_decisions_5 rfl ?_
  refine r_getI h kf_X8_159 dX8_decisions_6 rfl rfl (by decide) rfl ?_
  refine r_eqI (k_I_k (by decide)) ?_
  cases hoc
  exact r_ireturn h hEn dX8_decisions_9 rfl rfl rfl (by decide) (by decide)
def f_X8_likeness (σ : k_S) (i0 : Nat) (a1 : Int32) (a2 : Int32) : Option (Int32 × k_S) :=
  ((f_X8_isReport σ (i0) (a1)).bind fun v1 => (if v1 = 0 then (if (1 : Int32) ≤ 0 then ((f_X8_like (k_uI σ 1 (i0) (0) (1)) (i0) (a1) (a2)).bind fun v5 => some ((v5, (k_uI σ 1 (i0) (0) (1))))) else some ((0, (k_uI σ 1 (i0) (0) (1))))) else ((f_X8_isReport σ (i0) (a2)).bind fun v7 => (if v7 = 0 then (if (1 : Int32) ≤ 0 then ((f_X8_like (k_uI σ 1 (i0) (0) (1)) (i0) (a1) (a2)).bind fun v11 => some ((v11, (k_uI σ 1 (i0) (0) (1))))) else some ((0, (k_uI σ 1 (i0) (0) (1))))) else (if (0 : Int32) ≤ 0 then ((f_X8_like (k_uI σ 1 (i0) (0) (0)) (i0) (a1) (a2)).bind fun v14 => some ((v14, (k_uI σ 1 (i0) (0) (0))))) else some ((0, (k_uI σ 1 (i0) (0) (0)))))))))
theorem j_X8_likeness (la : Launch) (hla : la.flags = flags0) (G : k_G) (σ : k_S) (i0 : Nat) (a1 : Int32) (a2 : Int32) (x : (Int32 × k_S)) (hoc : f_X8_likeness σ i0 a1 a2 = some x) : k_Ct la G yX8_likeness (k_ws yX8_likeness cX8_likeness 3 (Option.some ClassFile.FieldType.int)) { frames := 2, cells := 0, slots := 0, locals := 44 } [k_p 1 (i0), k_i (a1), k_i (a2)] σ (.inl (k_mI x.1, x.2)) 0 0 := by
  refine k_body hla (by decide +kernel) (k_wl rfl) (Nat.le_of_ble_eq_true rfl) (fun X h hEn hMe => ?_)
  show k_W X σ 0 0 0 [some (k_p 1 (i0)), some (k_i (a1)), some (k_i (a2))] []
  unfold f_X8_likeness at hoc
  refine r_aload_n h dX8_likeness_0 rfl ?_
  refine r_aload_n h dX8_likeness_1 rfl ?_
  refine r_iload_n h dX8_likeness_2 rfl ?_
  obtain ⟨v1, q2, hoc⟩ := k_ob hoc
  refine r_callV h hMe (rest := [k_p 1 (i0)]) (as := [k_i (a1)]) (oc := .inl (k_mI v1, σ)) (j_X8_isReport la hla G _ (i0) (a1) _ q2) kl_X8_124 dX8_likeness_3 rfl rfl rfl rfl rfl ⟨rfl, rfl, Nat.le_of_ble_eq_true rfl, Nat.le_of_ble_eq_true rfl, Nat.le_of_ble_eq_true rfl, Nat.le_of_ble_eq_true rfl, Nat.le_of_ble_eq_true rfl⟩ (fun E q => by cases q) (fun r s q => ?_)
  cases q
  show k_W X _ _ _ _ _ ([k_i (v1), k_p 1 (i0)])
  refine r_if_eq (tgt := 21) h dX8_likeness_6 (by decide) (fun c3 => ?_) (fun c3 => ?_)
  · replace hoc := (if_pos c3).symm.trans hoc
    refine r_iconst (v := 1) h dX8_likeness_21 (by decide) ?_
    refine r_putI (x := 1) h kp_X8_84 dX8_likeness_22 rfl rfl (by decide) rfl rfl (k_fit_int _) ?_
    refine r_aload_n h dX8_likeness_25 rfl ?_
    refine r_getI h kf_X8_84 dX8_likeness_26 rfl rfl (by decide) rfl ?_
    refine r_eqI k_I_s ?_
    refine r_if_le (tgt := 36) h dX8_likeness_29 (by decide) (fun c4 => ?_) (fun c4 => ?_)
    · replace hoc := (if_pos c4).symm.trans hoc
      refine r_aload_n h dX8_likeness_36 rfl ?_
      refine r_iload_n h dX8_likeness_37 rfl ?_
      refine r_iload_n h dX8_likeness_38 rfl ?_
      obtain ⟨v5, q6, hoc⟩ := k_ob hoc
      refine r_callV h hMe (rest := []) (as := [k_i (a1), k_i (a2)]) (oc := .inl (k_mI v5, (k_uI σ 1 (i0) (0) (1)))) (j_X8_like la hla G _ (i0) (a1) (a2) _ q6) kl_X8_149 dX8_likeness_39 rfl rfl rfl rfl rfl ⟨rfl, rfl, Nat.le_of_ble_eq_true rfl, Nat.le_of_ble_eq_true rfl, Nat.le_of_ble_eq_true rfl, Nat.le_of_ble_eq_true rfl, Nat.le_of_ble_eq_true rfl⟩ (fun E q => by cases q) (fun r s q => ?_)
      cases q
      show k_W X _ _ _ _ _ ([k_i (v5)])
      cases hoc
      exact r_ireturn h hEn dX8_likeness_42 rfl rfl rfl (by decide) (by decide)
    · replace hoc := (if_neg c4).symm.trans hoc
      refine r_iconst (v := 0) h dX8_likeness_32 (by decide) ?_
      refine r_goto (tgt := 42) h dX8_likeness_33 (by decide) ?_
      cases hoc
      exact r_ireturn h hEn dX8_likeness_42 rfl rfl rfl (by decide) (by decide)
  · replace hoc := (if_neg c3).symm.trans hoc
    refine r_aload_n h dX8_likeness_9 rfl ?_
    refine r_iload_n h dX8_likeness_10 rfl ?_
    obtain ⟨v7, q8, hoc⟩ := k_ob hoc
    refine r_callV h hMe (rest := [k_p 1 (i0)]) (as := [k_i (a2)]) (oc := .inl (k_mI v7, σ)) (j_X8_isReport la hla G _ (i0) (a2) _ q8) kl_X8_124 dX8_likeness_11 rfl rfl rfl rfl rfl ⟨rfl, rfl, Nat.le_of_ble_eq_true rfl, Nat.le_of_ble_eq_true rfl, Nat.le_of_ble_eq_true rfl, Nat.le_of_ble_eq_true rfl, Nat.le_of_ble_eq_true rfl⟩ (fun E q => by cases q) (fun r s q => ?_)
    cases q
    show k_W X _ _ _ _ _ ([k_i (v7), k_p 1 (i0)])
    refine r_if_eq (tgt := 21) h dX8_likeness_14 (by decide) (fun c9 => ?_) (fun c9 => ?_)
    · replace hoc := (if_pos c9).symm.trans hoc
      refine r_iconst (v := 1) h dX8_likeness_21 (by decide) ?_
      refine r_putI (x := 1) h kp_X8_84 dX8_likeness_22 rfl rfl (by decide) rfl rfl (k_fit_int _) ?_
      refine r_aload_n h dX8_likeness_25 rfl ?_
      refine r_getI h kf_X8_84 dX8_likeness_26 rfl rfl (by decide) rfl ?_
      refine r_eqI k_I_s ?_
      refine r_if_le (tgt := 36) h dX8_likeness_29 (by decide) (fun c10 => ?_) (fun c10 => ?_)
      · replace hoc := (if_pos c10).symm.trans hoc
        refine r_aload_n h dX8_likeness_36 rfl ?_
        refine r_iload_n h dX8_likeness_37 rfl ?_
        refine r_iload_n h dX8_likeness_38 rfl ?_
        obtain ⟨v11, q12, hoc⟩ := k_ob hoc
        refine r_callV h hMe (rest := []) (as := [k_i (a1), k_i (a2)]) (oc := .inl (k_mI v11, (k_uI σ 1 (i0) (0) (1)))) (j_X8_like la hla G _ (i0) (a1) (a2) _ q12) kl_X8_149 dX8_likeness_39 rfl rfl rfl rfl rfl ⟨rfl, rfl, Nat.le_of_ble_eq_true rfl, Nat.le_of_ble_eq_true rfl, Nat.le_of_ble_eq_true rfl, Nat.le_of_ble_eq_true rfl, Nat.le_of_ble_eq_true rfl⟩ (fun E q => by cases q) (fun r s q => ?_)
        cases q
        show k_W X _ _ _ _ _ ([k_i (v11)])
        cases hoc
        exact r_ireturn h hEn dX8_likeness_42 rfl rfl rfl (by decide) (by decide)
      · replace hoc := (if_neg c10).symm.trans hoc
        refine r_iconst (v := 0) h dX8_likeness_32 (by decide) ?_
        refine r_goto (tgt := 42) h dX8_likeness_33 (by decide) ?_
        cases hoc
        exact r_ireturn h hEn dX8_likeness_42 rfl rfl rfl (by decide) (by decide)
    · replace hoc := (if_neg c9).symm.trans hoc
      refine r_iconst (v := 0) h dX8_likeness_17 (by decide) ?_
      refine r_goto (tgt := 22) h dX8_likeness_18 (by decide) ?_
      refine r_putI (x := 0) h kp_X8_84 dX8_likeness_22 rfl rfl (by decide) rfl rfl (k_fit_int _) ?_
      refine r_aload_n h dX8_likeness_25 rfl ?_
      refine r_getI h kf_X8_84 dX8_likeness_26 rfl rfl (by decide) rfl ?_
      refine r_eqI k_I_s ?_
      refine r_if_le (tgt := 36) h dX8_likeness_29 (by decide) (fun c13 => ?_) (fun c13 => ?_)
      · replace hoc := (if_pos c13).symm.trans hoc
        refine r_aload_n h dX8_likeness_36 rfl ?_
        refine r_iload_n h dX8_likeness_37 rfl ?_
        refine r_iload_n h dX8_likeness_38 rfl ?_
        obtain ⟨v14, q15, hoc⟩ := k_ob hoc
        refine r_callV h hMe (rest := []) (as := [k_i (a1), k_i (a2)]) (oc := .inl (k_mI v14, (k_uI σ 1 (i0) (0) (0)))) (j_X8_like la hla G _ (i0) (a1) (a2) _ q15) kl_X8_149 dX8_likeness_39 rfl rfl rfl rfl rfl ⟨rfl, rfl, Nat.le_of_ble_eq_true rfl, Nat.le_of_ble_eq_true rfl, Nat.le_of_ble_eq_true rfl, Nat.le_of_ble_eq_true rfl, Nat.le_of_ble_eq_true rfl⟩ (fun E q => by cases q) (fun r s q => ?_)
        cases q
        show k_W X _ _ _ _ _ ([k_i (v14)])
        cases hoc
        exact r_ireturn h hEn dX8_likeness_42 rfl rfl rfl (by decide) (by decide)
      · replace hoc := (if_neg c13).symm.trans hoc
        refine r_iconst (v := 0) h dX8_likeness_32 (by decide) ?_
        refine r_goto (tgt := 42) h dX8_likeness_33 (by decide) ?_
        cases hoc
        exact r_ireturn h hEn dX8_likeness_42 rfl rfl rfl (by decide) (by decide)
def f_X8_meanEvidence_l1 (t : Nat) (i0 : Nat) (σ : k_S) (x1 : Int32) (x2 : Int32) (x3 : Int32) : Option (Int32 × Int32 × Int32) := match t with
  | 0 => none
  | t + 1 => (if k_I σ 1 (i0) (28) ≤ x3 then some ((x1, x2, x3)) else ((f_X8_stands σ (i0) (x3) (103)).bind fun v2 => (if v2 = 0 then f_X8_meanEvidence_l1 t i0 σ (x1) (x2) ((x3 + 1)) else ((k_P σ 1 (i0) (18)).bind fun j5 => (if 0 ≤ x3 ∧ (x3).toNatClampNeg < 20 then f_X8_meanEvidence_l1 t i0 σ ((x1 + 1)) ((x2 + k_I σ 32 (j5) ((x3).toNatClampNeg))) ((x3 + 1)) else none)))))
theorem j_X8_meanEvidence_l1 (la : Launch) (hla : la.flags = flags0) (G : k_G) (X : k_X) (σ0 σ : k_S) (h : k_Ok X RX8 cX8_meanEvidence 4) (hMe : k_Me X la G σ0 { frames := 1, cells := 0, slots := 0, locals := 23 } "meanEvidence") (i0 : Nat) : ∀ (t : Nat) (x1 : Int32) (x2 : Int32) (x3 : Int32) (e : (Int32 × Int32 × Int32)), f_X8_meanEvidence_l1 t i0 σ x1 x2 x3 = some e → k_W X σ 0 0 50 [some (k_p 1 (i0)), some (k_i (e.1)), some (k_i (e.2.1)), some (k_i (e.2.2))] [] → k_W X σ 0 0 11 [some (k_p 1 (i0)), some (k_i (x1)), some (k_i (x2)), some (k_i (x3))] [] := by
  intro t
  induction t with
  | zero =>
    intro x1 x2 x3 e hoc kk
    cases hoc
  | succ t ih =>
    intro x1 x2 x3 e hoc kk
    rw [f_X8_meanEvidence_l1] at hoc
    refine r_iload_n h dX8_meanEvidence_11 rfl ?_
    refine r_aload_n h dX8_meanEvidence_12 rfl ?_
    refine r_getI h kf_X8_97 dX8_meanEvidence_13 rfl rfl (by decide) rfl ?_
    refine r_icmp_ge (tgt := 50) h dX8_meanEvidence_16 (by decide) (fun c1 => ?_) (fun c1 => ?_)
    · replace hoc := (if_pos c1).symm.trans hoc
      cases hoc
      exact kk
    · replace hoc := (if_neg c1).symm.trans hoc
      refine r_aload_n h dX8_meanEvidence_19 rfl ?_
      refine r_iload_n h dX8_meanEvidence_20 rfl ?_
      refine r_bipush (v := 103) h dX8_meanEvidence_21 (by decide) ?_
      obtain ⟨v2, q3, hoc⟩ := k_ob hoc
      refine r_callV h hMe (rest := []) (as := [k_i (x3), k_i (103)]) (oc := .inl (k_mI v2, σ)) (j_X8_stands la hla G _ (i0) (x3) (103) _ q3) kl_X8_133 dX8_meanEvidence_23 rfl rfl rfl rfl rfl ⟨rfl, rfl, Nat.le_of_ble_eq_true rfl, Nat.le_of_ble_eq_true rfl, Nat.le_of_ble_eq_true rfl, Nat.le_of_ble_eq_true rfl, Nat.le_of_ble_eq_true rfl⟩ (fun E q => by cases q) (fun r s q => ?_)
      cases q
      show k_W X _ _ _ _ _ ([k_i (v2)])
      refine r_if_ne (tgt := 32) h dX8_meanEvidence_26 (by decide) (fun c4 => ?_) (fun c4 => ?_)
      · replace hoc := (if_neg c4).symm.trans hoc
        refine r_iinc (v := (x1 + 1)) (L' := [some (k_p 1 (i0)), some (k_i ((x1 + 1))), some (k_i (x2)), some (k_i (x3))]) h dX8_meanEvidence_32 rfl rfl (by decide) rfl ?_
        refine r_iload_n h dX8_meanEvidence_35 rfl ?_
        refine r_aload_n h dX8_meanEvidence_36 rfl ?_
        obtain ⟨j5, q6, hoc⟩ := k_ob hoc
        refine r_getR h kf_X8_51 dX8_meanEvidence_37 rfl rfl (by decide) rfl (Eq.trans rfl q6) ?_
        refine r_iload_n h dX8_meanEvidence_40 rfl ?_
        obtain ⟨c7, hoc⟩ := k_gd hoc
        refine r_iaload (y := (x3).toNatClampNeg) (t := 0) h dX8_meanEvidence_41 rfl rfl rfl (k_xx c7.1) c7.2 (by decide) ?_
        refine r_iadd h dX8_meanEvidence_42 ?_
        refine r_istore_n (L' := [some (k_p 1 (i0)), some (k_i ((x1 + 1))), some (k_i ((x2 + k_I σ 32 (j5) ((x3).toNatClampNeg)))), some (k_i (x3))]) h dX8_meanEvidence_43 (by decide) rfl ?_
        refine r_iinc (v := (x3 + 1)) (L' := [some (k_p 1 (i0)), some (k_i ((x1 + 1))), some (k_i ((x2 + k_I σ 32 (j5) ((x3).toNatClampNeg)))), some (k_i ((x3 + 1)))]) h dX8_meanEvidence_44 rfl rfl (by decide) rfl ?_
        refine r_goto (tgt := 11) h dX8_meanEvidence_47 (by decide) ?_
        exact r_forget (L' := [some (k_p 1 (i0)), some (k_i ((x1 + 1))), some (k_i ((x2 + k_I σ 32 (j5) ((x3).toNatClampNeg)))), some (k_i ((x3 + 1)))]) (k_le_ok ⟨rfl, ⟨rfl, ⟨rfl, ⟨rfl, trivial⟩⟩⟩⟩) (ih ((x1 + 1)) ((x2 + k_I σ 32 (j5) ((x3).toNatClampNeg))) ((x3 + 1)) _ hoc kk)
      · replace hoc := (if_pos c4).symm.trans hoc
        refine r_goto (tgt := 44) h dX8_meanEvidence_29 (by decide) ?_
        refine r_iinc (v := (x3 + 1)) (L' := [some (k_p 1 (i0)), some (k_i (x1)), some (k_i (x2)), some (k_i ((x3 + 1)))]) h dX8_meanEvidence_44 rfl rfl (by decide) rfl ?_
        refine r_goto (tgt := 11) h dX8_meanEvidence_47 (by decide) ?_
        exact r_forget (L' := [some (k_p 1 (i0)), some (k_i (x1)), some (k_i (x2)), some (k_i ((x3 + 1)))]) (k_le_ok ⟨rfl, ⟨rfl, ⟨rfl, ⟨rfl, trivial⟩⟩⟩⟩) (ih (x1) (x2) ((x3 + 1)) _ hoc kk)
def f_X8_meanEvidence (σ : k_S) (i0 : Nat) : Option (UInt64 × k_S) :=
  ((f_X8_meanEvidence_l1 200 i0 (k_uI σ 1 (i0) (0) (0)) (0) (0) (0)).bind fun v8 => (if v8.1 = 0 then ((f_X8_fails (k_uI σ 1 (i0) (0) (0)) (i0) (1)).bind fun v12 => some (((FP.i2d (v12.1)), v12.2))) else (if (FP.ddiv (FP.i2d (v8.2.1)) (FP.i2d (v8.1))) &&& 0x7fffffffffffffff ≤ 0x7ff0000000000000 then some (((FP.ddiv (FP.i2d (v8.2.1)) (FP.i2d (v8.1))), (k_uI σ 1 (i0) (0) (0)))) else none)))
theorem j_X8_meanEvidence (la : Launch) (hla : la.flags = flags0) (G : k_G) (σ : k_S) (i0 : Nat) (x : (UInt64 × k_S)) (hoc : f_X8_meanEvidence σ i0 = some x) : k_Ct la G yX8_meanEvidence (k_ws yX8_meanEvidence cX8_meanEvidence 4 (Option.some ClassFile.FieldType.double)) { frames := 1, cells := 0, slots := 0, locals := 23 } [k_p 1 (i0)] σ (.inl (k_mD x.1, x.2)) 0 0 := by
  refine k_body hla (by decide +kernel) (k_wl rfl) (Nat.le_of_ble_eq_true rfl) (fun X h hEn hMe => ?_)
  show k_W X σ 0 0 0 [some (k_p 1 (i0)), none, none, none] []
  unfold f_X8_meanEvidence at hoc
  refine r_aload_n h dX8_meanEvidence_0 rfl ?_
  refine r_iconst (v := 0) h dX8_meanEvidence_1 (by decide) ?_
  refine r_putI (x := 0) h kp_X8_84 dX8_meanEvidence_2 rfl rfl (by decide) rfl rfl (k_fit_int _) ?_
  refine r_iconst (v := 0) h dX8_meanEvidence_5 (by decide) ?_
  refine r_istore_n (L' := [some (k_p 1 (i0)), some (k_i (0)), none, none]) h dX8_meanEvidence_6 (by decide) rfl ?_
  refine r_iconst (v := 0) h dX8_meanEvidence_7 (by decide) ?_
  refine r_istore_n (L' := [some (k_p 1 (i0)), some (k_i (0)), some (k_i (0)), none]) h dX8_meanEvidence_8 (by decide) rfl ?_
  refine r_iconst (v := 0) h dX8_meanEvidence_9 (by decide) ?_
  refine r_istore_n (L' := [some (k_p 1 (i0)), some (k_i (0)), some (k_i (0)), some (k_i (0))]) h dX8_meanEvidence_10 (by decide) rfl ?_
  obtain ⟨v8, q9, hoc⟩ := k_ob hoc
  refine j_X8_meanEvidence_l1 la hla G X σ (k_uI σ 1 (i0) (0) (0)) h hMe i0 200 (0) (0) (0) _ q9 ?_
  refine r_iload_n h dX8_meanEvidence_50 rfl ?_
  refine r_if_ne (tgt := 63) h dX8_meanEvidence_51 (by decide) (fun c10 => ?_) (fun c10 => ?_)
  · replace hoc := (if_neg c10).symm.trans hoc
    refine r_iload_n h dX8_meanEvidence_63 rfl ?_
    refine r_i2d h dX8_meanEvidence_64 ?_
    refine r_iload_n h dX8_meanEvidence_65 rfl ?_
    refine r_i2d h dX8_meanEvidence_66 ?_
    obtain ⟨c11, hoc⟩ := k_gd hoc
    refine r_ddiv h dX8_meanEvidence_67 c11 ?_
    cases hoc
    exact r_dreturn h hEn dX8_meanEvidence_68 rfl rfl (by decide) (by decide)
  · replace hoc := (if_pos c10).symm.trans hoc
    refine r_aload_n h dX8_meanEvidence_54 rfl ?_
    refine r_iconst (v := 1) h dX8_meanEvidence_55 (by decide) ?_
    obtain ⟨v12, q13, hoc⟩ := k_ob hoc
    refine r_callV h hMe (rest := []) (as := [k_i (1)]) (oc := .inl (k_mI v12.1, v12.2)) (j_X8_fails la hla G _ (i0) (1) _ q13) kl_X8_103 dX8_meanEvidence_56 rfl rfl rfl rfl rfl ⟨rfl, rfl, Nat.le_of_ble_eq_true rfl, Nat.le_of_ble_eq_true rfl, Nat.le_of_ble_eq_true rfl, Nat.le_of_ble_eq_true rfl, Nat.le_of_ble_eq_true rfl⟩ (fun E q => by cases q) (fun r s q => ?_)
    cases q
    show k_W X _ _ _ _ _ ([k_i (v12.1)])
    refine r_i2d h dX8_meanEvidence_59 ?_
    refine r_goto (tgt := 68) h dX8_meanEvidence_60 (by decide) ?_
    cases hoc
    exact r_dreturn h hEn dX8_meanEvidence_68 rfl rfl (by decide) (by decide)
def f_X8_reversedShare (σ : k_S) (i0 : Nat) : Option (UInt32 × k_S) :=
  (if k_I σ 1 (i0) (30) = 0 then ((f_X8_fails (k_uI σ 1 (i0) (0) (0)) (i0) (1)).bind fun v3 => some (((FP.i2f (v3.1)), v3.2))) else (if (FP.fdiv (FP.i2f (k_I σ 1 (i0) (31))) (FP.i2f (k_I σ 1 (i0) (30)))) &&& 0x7fffffff ≤ 0x7f800000 then some (((FP.fdiv (FP.i2f (k_I σ 1 (i0) (31))) (FP.i2f (k_I σ 1 (i0) (30)))), (k_uI σ 1 (i0) (0) (0)))) else none))
theorem j_X8_reversedShare (la : Launch) (hla : la.flags = flags0) (G : k_G) (σ : k_S) (i0 : Nat) (x : (UInt32 × k_S)) (hoc : f_X8_reversedShare σ i0 = some x) : k_Ct la G yX8_reversedShare (k_ws yX8_reversedShare cX8_reversedShare 1 (Option.some ClassFile.FieldType.float)) { frames := 1, cells := 0, slots := 0, locals := 22 } [k_p 1 (i0)] σ (.inl (k_mF x.1, x.2)) 0 0 := by
  refine k_body hla (by decide +kernel) (k_wl rfl) (Nat.le_of_ble_eq_true rfl) (fun X h hEn hMe => ?_)
  show k_W X σ 0 0 0 [some (k_p 1 (i0))] []
  unfold f_X8_reversedShare at hoc
  refine r_aload_n h dX8_reversedShare_0 rfl ?_
  refine r_iconst (v := 0) h dX8_reversedShare_1 (by decide) ?_
  refine r_putI (x := 0) h kp_X8_84 dX8_reversedShare_2 rfl rfl (by decide) rfl rfl (k_fit_int _) ?_
  refine r_aload_n h dX8_reversedShare_5 rfl ?_
  refine r_getI h kf_X8_172 dX8_reversedShare_6 rfl rfl (by decide) rfl ?_
  refine r_eqI (k_I_k (by decide)) ?_
  refine r_if_ne (tgt := 21) h dX8_reversedShare_9 (by decide) (fun c1 => ?_) (fun c1 => ?_)
  · replace hoc := (if_neg c1).symm.trans hoc
    refine r_aload_n h dX8_reversedShare_21 rfl ?_
    refine r_getI h kf_X8_175 dX8_reversedShare_22 rfl rfl (by decide) rfl ?_
    refine r_eqI (k_I_k (by decide)) ?_
    refine r_i2f h dX8_reversedShare_25 ?_
    refine r_aload_n h dX8_reversedShare_26 rfl ?_
    refine r_getI h kf_X8_172 dX8_reversedShare_27 rfl rfl (by decide) rfl ?_
    refine r_eqI (k_I_k (by decide)) ?_
    refine r_i2f h dX8_reversedShare_30 ?_
    obtain ⟨c2, hoc⟩ := k_gd hoc
    refine r_fdiv h dX8_reversedShare_31 c2 ?_
    cases hoc
    exact r_freturn h hEn dX8_reversedShare_32 rfl rfl (by decide) (by decide)
  · replace hoc := (if_pos c1).symm.trans hoc
    refine r_aload_n h dX8_reversedShare_12 rfl ?_
    refine r_iconst (v := 1) h dX8_reversedShare_13 (by decide) ?_
    obtain ⟨v3, q4, hoc⟩ := k_ob hoc
    refine r_callV h hMe (rest := []) (as := [k_i (1)]) (oc := .inl (k_mI v3.1, v3.2)) (j_X8_fails la hla G _ (i0) (1) _ q4) kl_X8_103 dX8_reversedShare_14 rfl rfl rfl rfl rfl ⟨rfl, rfl, Nat.le_of_ble_eq_true rfl, Nat.le_of_ble_eq_true rfl, Nat.le_of_ble_eq_true rfl, Nat.le_of_ble_eq_true rfl, Nat.le_of_ble_eq_true rfl⟩ (fun E q => by cases q) (fun r s q => ?_)
    cases q
    show k_W X _ _ _ _ _ ([k_i (v3.1)])
    refine r_i2f h dX8_reversedShare_17 ?_
    refine r_goto (tgt := 32) h dX8_reversedShare_18 (by decide) ?_
    cases hoc
    exact r_freturn h hEn dX8_reversedShare_32 rfl rfl (by decide) (by decide)
def f_X8_sanctionDays (σ : k_S) (i0 : Nat) : Option (Int64 × k_S) :=
  some ((k_J σ 1 (i0) (32), (k_uI σ 1 (i0) (0) (0))))
theorem j_X8_sanctionDays (la : Launch) (hla : la.flags = flags0) (G : k_G) (σ : k_S) (i0 : Nat) (x : (Int64 × k_S)) (hoc : f_X8_sanctionDays σ i0 = some x) : k_Ct la G yX8_sanctionDays (k_ws yX8_sanctionDays cX8_sanctionDays 1 (Option.some ClassFile.FieldType.long)) { frames := 0, cells := 0, slots := 0, locals := 1 } [k_p 1 (i0)] σ (.inl (k_mJ x.1, x.2)) 0 0 := by
  refine k_body hla (by decide +kernel) (k_wl rfl) (Nat.le_of_ble_eq_true rfl) (fun X h hEn hMe => ?_)
  show k_W X σ 0 0 0 [some (k_p 1 (i0))] []
  unfold f_X8_sanctionDays at hoc
  refine r_aload_n h dX8_sanctionDays_0 rfl ?_
  refine r_iconst (v := 0) h dX8_sanctionDays_1 (by decide) ?_
  refine r_putI (x := 0) h kp_X8_84 dX8_sanctionDays_2 rfl rfl (by decide) rfl rfl (k_fit_int _) ?_
  refine r_aload_n h dX8_sanctionDays_5 rfl ?_
  refine r_getJ h kf_X8_191 dX8_sanctionDays_6 rfl rfl (by decide) rfl ?_
  refine r_eqJ rfl ?_
  cases hoc
  exact r_lreturn h hEn dX8_sanctionDays_9 rfl rfl (by decide) (by decide)
def f_X8_isConsistent (σ : k_S) (i0 : Nat) : Option (Int32 × k_S) :=
  some ((1, (k_uI σ 1 (i0) (0) (0))))
theorem j_X8_isConsistent (la : Launch) (hla : la.flags = flags0) (G : k_G) (σ : k_S) (i0 : Nat) (x : (Int32 × k_S)) (hoc : f_X8_isConsistent σ i0 = some x) : k_Ct la G yX8_isConsistent (k_ws yX8_isConsistent cX8_isConsistent 1 (Option.some ClassFile.FieldType.boolean)) { frames := 0, cells := 0, slots := 0, locals := 1 } [k_p 1 (i0)] σ (.inl (k_mI x.1, x.2)) 0 0 := by
  refine k_body hla (by decide +kernel) (k_wl rfl) (Nat.le_of_ble_eq_true rfl) (fun X h hEn hMe => ?_)
  show k_W X σ 0 0 0 [some (k_p 1 (i0))] []
  unfold f_X8_isConsistent at hoc
  refine r_aload_n h dX8_isConsistent_0 rfl ?_
  refine r_iconst (v := 0) h dX8_isConsistent_1 (by decide) ?_
  refine r_putI (x := 0) h kp_X8_84 dX8_isConsistent_2 rfl rfl (by decide) rfl rfl (k_fit_int _) ?_
  refine r_iconst (v := 1) h dX8_isConsistent_5 (by decide) ?_
  cases hoc
  exact r_ireturn h hEn dX8_isConsistent_6 rfl (by decide) rfl (by decide) (by decide)
def f_X8_isOf (σ : k_S) (i0 : Nat) (a1 : Int32) (a2 : Int32) : Option Int32 :=
  (if a2 = 98 then ((k_P σ 1 (i0) (24)).bind fun j4 => (if 0 ≤ a1 ∧ (a1).toNatClampNeg < 20 then (if k_I σ 38 (j4) ((a1).toNatClampNeg) = (100 : Int32) then ((k_P σ 1 (i0) (21)).bind fun j8 => (if 0 ≤ a1 ∧ (a1).toNatClampNeg < 20 then (if k_I σ 35 (j8) ((a1).toNatClampNeg) < 0 then some (0) else some (1)) else none)) else some (0)) else none)) else (if a2 = 103 then ((f_X8_stands σ (i0) (a1) (103)).bind fun v12 => (if v12 = 0 ∨ v12 = 1 then some (v12) else none)) else (if a2 = 111 then ((k_P σ 1 (i0) (24)).bind fun j15 => (if 0 ≤ a1 ∧ (a1).toNatClampNeg < 20 then (if k_I σ 38 (j15) ((a1).toNatClampNeg) = (111 : Int32) then some (1) else some (0)) else none)) else ((f_X8_isReversed σ (i0) (a1)).bind fun v19 => (if v19 = 0 ∨ v19 = 1 then some (v19) else none)))))
theorem j_X8_isOf (la : Launch) (hla : la.flags = flags0) (G : k_G) (σ : k_S) (i0 : Nat) (a1 : Int32) (a2 : Int32) (x : Int32) (hoc : f_X8_isOf σ i0 a1 a2 = some x) : k_Ct la G yX8_isOf (k_ws yX8_isOf cX8_isOf 3 (Option.some ClassFile.FieldType.boolean)) { frames := 1, cells := 0, slots := 0, locals := 23 } [k_p 1 (i0), k_i (a1), k_i (a2)] σ (.inl (k_mI x, σ)) 0 0 := by
  refine k_body hla (by decide +kernel) (k_wl rfl) (Nat.le_of_ble_eq_true rfl) (fun X h hEn hMe => ?_)
  show k_W X σ 0 0 0 [some (k_p 1 (i0)), some (k_i (a1)), some (k_i (a2))] []
  unfold f_X8_isOf at hoc
  refine r_iload_n h dX8_isOf_0 rfl ?_
  by_cases c1 : a2 = 98
  · replace hoc := (if_pos c1).symm.trans hoc
    refine r_lookup (off := 60) (tgt := 61) h dX8_isOf_1 (by decide) (by rw [c1]; decide) (by decide) ?_
    refine r_aload_n h dX8_isOf_61 rfl ?_
    obtain ⟨j4, q5, hoc⟩ := k_ob hoc
    refine r_getR h kf_X8_69 dX8_isOf_62 rfl rfl (by decide) rfl (Eq.trans rfl q5) ?_
    refine r_iload_n h dX8_isOf_65 rfl ?_
    obtain ⟨c6, hoc⟩ := k_gd hoc
    refine r_caload (y := (a1).toNatClampNeg) (t := 0) h dX8_isOf_66 rfl rfl rfl (k_xx c6.1) c6.2 (by decide) ?_
    refine r_bipush (v := 100) h dX8_isOf_67 (by decide) ?_
    refine r_icmp_ne (tgt := 85) h dX8_isOf_69 (by decide) (fun c7 => ?_) (fun c7 => ?_)
    · replace hoc := (if_neg c7).symm.trans hoc
      refine r_iconst (v := 0) h dX8_isOf_85 (by decide) ?_
      cases hoc
      exact r_ireturn h hEn dX8_isOf_86 rfl (by decide) rfl (by decide) (by decide)
    · replace hoc := (if_pos c7).symm.trans hoc
      refine r_aload_n h dX8_isOf_72 rfl ?_
      obtain ⟨j8, q9, hoc⟩ := k_ob hoc
      refine r_getR h kf_X8_60 dX8_isOf_73 rfl rfl (by decide) rfl (Eq.trans rfl q9) ?_
      refine r_iload_n h dX8_isOf_76 rfl ?_
      obtain ⟨c10, hoc⟩ := k_gd hoc
      refine r_iaload (y := (a1).toNatClampNeg) (t := 0) h dX8_isOf_77 rfl rfl rfl (k_xx c10.1) c10.2 (by decide) ?_
      refine r_if_lt (tgt := 85) h dX8_isOf_78 (by decide) (fun c11 => ?_) (fun c11 => ?_)
      · replace hoc := (if_pos c11).symm.trans hoc
        refine r_iconst (v := 0) h dX8_isOf_85 (by decide) ?_
        cases hoc
        exact r_ireturn h hEn dX8_isOf_86 rfl (by decide) rfl (by decide) (by decide)
      · replace hoc := (if_neg c11).symm.trans hoc
        refine r_iconst (v := 1) h dX8_isOf_81 (by decide) ?_
        refine r_goto (tgt := 86) h dX8_isOf_82 (by decide) ?_
        cases hoc
        exact r_ireturn h hEn dX8_isOf_86 rfl (by decide) rfl (by decide) (by decide)
  · replace hoc := (if_neg c1).symm.trans hoc
    by_cases c2 : a2 = 103
    · replace hoc := (if_pos c2).symm.trans hoc
      refine r_lookup (off := 52) (tgt := 53) h dX8_isOf_1 (by decide) (by rw [c2]; decide) (by decide) ?_
      refine r_aload_n h dX8_isOf_53 rfl ?_
      refine r_iload_n h dX8_isOf_54 rfl ?_
      refine r_bipush (v := 103) h dX8_isOf_55 (by decide) ?_
      obtain ⟨v12, q13, hoc⟩ := k_ob hoc
      refine r_callV h hMe (rest := []) (as := [k_i (a1), k_i (103)]) (oc := .inl (k_mI v12, σ)) (j_X8_stands la hla G _ (i0) (a1) (103) _ q13) kl_X8_133 dX8_isOf_57 rfl rfl rfl rfl rfl ⟨rfl, rfl, Nat.le_of_ble_eq_true rfl, Nat.le_of_ble_eq_true rfl, Nat.le_of_ble_eq_true rfl, Nat.le_of_ble_eq_true rfl, Nat.le_of_ble_eq_true rfl⟩ (fun E q => by cases q) (fun r s q => ?_)
      cases q
      show k_W X _ _ _ _ _ ([k_i (v12)])
      obtain ⟨c14, hoc⟩ := k_gd hoc
      cases hoc
      exact r_ireturn h hEn dX8_isOf_60 rfl (k_n01 c14) rfl (by decide) (by decide)
    · replace hoc := (if_neg c2).symm.trans hoc
      by_cases c3 : a2 = 111
      · replace hoc := (if_pos c3).symm.trans hoc
        refine r_lookup (off := 35) (tgt := 36) h dX8_isOf_1 (by decide) (by rw [c3]; decide) (by decide) ?_
        refine r_aload_n h dX8_isOf_36 rfl ?_
        obtain ⟨j15, q16, hoc⟩ := k_ob hoc
        refine r_getR h kf_X8_69 dX8_isOf_37 rfl rfl (by decide) rfl (Eq.trans rfl q16) ?_
        refine r_iload_n h dX8_isOf_40 rfl ?_
        obtain ⟨c17, hoc⟩ := k_gd hoc
        refine r_caload (y := (a1).toNatClampNeg) (t := 0) h dX8_isOf_41 rfl rfl rfl (k_xx c17.1) c17.2 (by decide) ?_
        refine r_bipush (v := 111) h dX8_isOf_42 (by decide) ?_
        refine r_icmp_ne (tgt := 51) h dX8_isOf_44 (by decide) (fun c18 => ?_) (fun c18 => ?_)
        · replace hoc := (if_neg c18).symm.trans hoc
          refine r_iconst (v := 0) h dX8_isOf_51 (by decide) ?_
          cases hoc
          exact r_ireturn h hEn dX8_isOf_52 rfl (by decide) rfl (by decide) (by decide)
        · replace hoc := (if_pos c18).symm.trans hoc
          refine r_iconst (v := 1) h dX8_isOf_47 (by decide) ?_
          refine r_goto (tgt := 52) h dX8_isOf_48 (by decide) ?_
          cases hoc
          exact r_ireturn h hEn dX8_isOf_52 rfl (by decide) rfl (by decide) (by decide)
      · replace hoc := (if_neg c3).symm.trans hoc
        refine r_lookup (off := 86) (tgt := 87) h dX8_isOf_1 (by decide) (by show Op.lookupswitch.offset [(98, 60), (103, 52), (111, 35)] 86 _ = _; rw [Op.lookupswitch.offset_cons, if_neg (fun q => c1 (Int32.toInt_inj.mp (q.symm.trans (by decide))))]; rw [Op.lookupswitch.offset_cons, if_neg (fun q => c2 (Int32.toInt_inj.mp (q.symm.trans (by decide))))]; rw [Op.lookupswitch.offset_cons, if_neg (fun q => c3 (Int32.toInt_inj.mp (q.symm.trans (by decide))))]; rfl) (by decide) ?_
        refine r_aload_n h dX8_isOf_87 rfl ?_
        refine r_iload_n h dX8_isOf_88 rfl ?_
        obtain ⟨v19, q20, hoc⟩ := k_ob hoc
        refine r_callV h hMe (rest := []) (as := [k_i (a1)]) (oc := .inl (k_mI v19, σ)) (j_X8_isReversed la hla G _ (i0) (a1) _ q20) kl_X8_188 dX8_isOf_89 rfl rfl rfl rfl rfl ⟨rfl, rfl, Nat.le_of_ble_eq_true rfl, Nat.le_of_ble_eq_true rfl, Nat.le_of_ble_eq_true rfl, Nat.le_of_ble_eq_true rfl, Nat.le_of_ble_eq_true rfl⟩ (fun E q => by cases q) (fun r s q => ?_)
        cases q
        show k_W X _ _ _ _ _ ([k_i (v19)])
        obtain ⟨c21, hoc⟩ := k_gd hoc
        cases hoc
        exact r_ireturn h hEn dX8_isOf_92 rfl (k_n01 c21) rfl (by decide) (by decide)
def f_X8_count_l1 (t : Nat) (i0 : Nat) (a1 : Int32) (σ : k_S) (x2 : Int32) (x3 : Int32) : Option (Int32 × Int32) := match t with
  | 0 => none
  | t + 1 => (if k_I σ 1 (i0) (28) ≤ x3 then some ((x2, x3)) else ((f_X8_isOf σ (i0) (x3) (a1)).bind fun v3 => (if v3 = 0 then f_X8_count_l1 t i0 a1 σ ((x2 + 0)) ((x3 + 1)) else f_X8_count_l1 t i0 a1 σ ((x2 + 1)) ((x3 + 1)))))
theorem j_X8_count_l1 (la : Launch) (hla : la.flags = flags0) (G : k_G) (X : k_X) (σ0 σ : k_S) (h : k_Ok X RX8 cX8_count 4) (hMe : k_Me X la G σ0 { frames := 2, cells := 0, slots := 0, locals := 45 } "count") (i0 : Nat) (a1 : Int32) : ∀ (t : Nat) (x2 : Int32) (x3 : Int32) (e : (Int32 × Int32)), f_X8_count_l1 t i0 a1 σ x2 x3 = some e → k_W X σ 0 0 70 [some (k_p 1 (i0)), some (k_i (a1)), some (k_i (e.1)), some (k_i (e.2))] [] → k_W X σ 0 0 39 [some (k_p 1 (i0)), some (k_i (a1)), some (k_i (x2)), some (k_i (x3))] [] := by
  intro t
  induction t with
  | zero =>
    intro x2 x3 e hoc kk
    cases hoc
  | succ t ih =>
    intro x2 x3 e hoc kk
    rw [f_X8_count_l1] at hoc
    refine r_iload_n h dX8_count_39 rfl ?_
    refine r_aload_n h dX8_count_40 rfl ?_
    refine r_getI h kf_X8_97 dX8_count_41 rfl rfl (by decide) rfl ?_
    refine r_icmp_ge (tgt := 70) h dX8_count_44 (by decide) (fun c2 => ?_) (fun c2 => ?_)
    · replace hoc := (if_pos c2).symm.trans hoc
      cases hoc
      exact kk
    · replace hoc := (if_neg c2).symm.trans hoc
      refine r_iload_n h dX8_count_47 rfl ?_
      refine r_aload_n h dX8_count_48 rfl ?_
      refine r_iload_n h dX8_count_49 rfl ?_
      refine r_iload_n h dX8_count_50 rfl ?_
      obtain ⟨v3, q4, hoc⟩ := k_ob hoc
      refine r_callV h hMe (rest := [k_i (x2)]) (as := [k_i (x3), k_i (a1)]) (oc := .inl (k_mI v3, σ)) (j_X8_isOf la hla G _ (i0) (x3) (a1) _ q4) kl_X8_195 dX8_count_51 rfl rfl rfl rfl rfl ⟨rfl, rfl, Nat.le_of_ble_eq_true rfl, Nat.le_of_ble_eq_true rfl, Nat.le_of_ble_eq_true rfl, Nat.le_of_ble_eq_true rfl, Nat.le_of_ble_eq_true rfl⟩ (fun E q => by cases q) (fun r s q => ?_)
      cases q
      show k_W X _ _ _ _ _ ([k_i (v3), k_i (x2)])
      refine r_if_eq (tgt := 61) h dX8_count_54 (by decide) (fun c5 => ?_) (fun c5 => ?_)
      · replace hoc := (if_pos c5).symm.trans hoc
        refine r_iconst (v := 0) h dX8_count_61 (by decide) ?_
        refine r_iadd h dX8_count_62 ?_
        refine r_istore_n (L' := [some (k_p 1 (i0)), some (k_i (a1)), some (k_i ((x2 + 0))), some (k_i (x3))]) h dX8_count_63 (by decide) rfl ?_
        refine r_iinc (v := (x3 + 1)) (L' := [some (k_p 1 (i0)), some (k_i (a1)), some (k_i ((x2 + 0))), some (k_i ((x3 + 1)))]) h dX8_count_64 rfl rfl (by decide) rfl ?_
        refine r_goto (tgt := 39) h dX8_count_67 (by decide) ?_
        exact r_forget (L' := [some (k_p 1 (i0)), some (k_i (a1)), some (k_i ((x2 + 0))), some (k_i ((x3 + 1)))]) (k_le_ok ⟨rfl, ⟨rfl, ⟨rfl, ⟨rfl, trivial⟩⟩⟩⟩) (ih ((x2 + 0)) ((x3 + 1)) _ hoc kk)
      · replace hoc := (if_neg c5).symm.trans hoc
        refine r_iconst (v := 1) h dX8_count_57 (by decide) ?_
        refine r_goto (tgt := 62) h dX8_count_58 (by decide) ?_
        refine r_iadd h dX8_count_62 ?_
        refine r_istore_n (L' := [some (k_p 1 (i0)), some (k_i (a1)), some (k_i ((x2 + 1))), some (k_i (x3))]) h dX8_count_63 (by decide) rfl ?_
        refine r_iinc (v := (x3 + 1)) (L' := [some (k_p 1 (i0)), some (k_i (a1)), some (k_i ((x2 + 1))), some (k_i ((x3 + 1)))]) h dX8_count_64 rfl rfl (by decide) rfl ?_
        refine r_goto (tgt := 39) h dX8_count_67 (by decide) ?_
        exact r_forget (L' := [some (k_p 1 (i0)), some (k_i (a1)), some (k_i ((x2 + 1))), some (k_i ((x3 + 1)))]) (k_le_ok ⟨rfl, ⟨rfl, ⟨rfl, ⟨rfl, trivial⟩⟩⟩⟩) (ih ((x2 + 1)) ((x3 + 1)) _ hoc kk)
def f_X8_count_l2 (t : Nat) (i0 : Nat) (a1 : Int32) (σ : k_S) (x2 : Int32) (x3 : Int32) : Option (Int32 × Int32) := match t with
  | 0 => none
  | t + 1 => (if k_I σ 1 (i0) (28) ≤ x3 then some ((x2, x3)) else ((f_X8_isOf σ (i0) (x3) (a1)).bind fun v10 => (if v10 = 0 then f_X8_count_l2 t i0 a1 σ ((x2 + 0)) ((x3 + 1)) else f_X8_count_l2 t i0 a1 σ ((x2 + 1)) ((x3 + 1)))))
theorem j_X8_count_l2 (la : Launch) (hla : la.flags = flags0) (G : k_G) (X : k_X) (σ0 σ : k_S) (h : k_Ok X RX8 cX8_count 4) (hMe : k_Me X la G σ0 { frames := 2, cells := 0, slots := 0, locals := 45 } "count") (i0 : Nat) (a1 : Int32) : ∀ (t : Nat) (x2 : Int32) (x3 : Int32) (e : (Int32 × Int32)), f_X8_count_l2 t i0 a1 σ x2 x3 = some e → k_W X σ 0 0 70 [some (k_p 1 (i0)), some (k_i (a1)), some (k_i (e.1)), some (k_i (e.2))] [] → k_W X σ 0 0 39 [some (k_p 1 (i0)), some (k_i (a1)), some (k_i (x2)), some (k_i (x3))] [] := by
  intro t
  induction t with
  | zero =>
    intro x2 x3 e hoc kk
    cases hoc
  | succ t ih =>
    intro x2 x3 e hoc kk
    rw [f_X8_count_l2] at hoc
    refine r_iload_n h dX8_count_39 rfl ?_
    refine r_aload_n h dX8_count_40 rfl ?_
    refine r_getI h kf_X8_97 dX8_count_41 rfl rfl (by decide) rfl ?_
    refine r_icmp_ge (tgt := 70) h dX8_count_44 (by decide) (fun c9 => ?_) (fun c9 => ?_)
    · replace hoc := (if_pos c9).symm.trans hoc
      cases hoc
      exact kk
    · replace hoc := (if_neg c9).symm.trans hoc
      refine r_iload_n h dX8_count_47 rfl ?_
      refine r_aload_n h dX8_count_48 rfl ?_
      refine r_iload_n h dX8_count_49 rfl ?_
      refine r_iload_n h dX8_count_50 rfl ?_
      obtain ⟨v10, q11, hoc⟩ := k_ob hoc
      refine r_callV h hMe (rest := [k_i (x2)]) (as := [k_i (x3), k_i (a1)]) (oc := .inl (k_mI v10, σ)) (j_X8_isOf la hla G _ (i0) (x3) (a1) _ q11) kl_X8_195 dX8_count_51 rfl rfl rfl rfl rfl ⟨rfl, rfl, Nat.le_of_ble_eq_true rfl, Nat.le_of_ble_eq_true rfl, Nat.le_of_ble_eq_true rfl, Nat.le_of_ble_eq_true rfl, Nat.le_of_ble_eq_true rfl⟩ (fun E q => by cases q) (fun r s q => ?_)
      cases q
      show k_W X _ _ _ _ _ ([k_i (v10), k_i (x2)])
      refine r_if_eq (tgt := 61) h dX8_count_54 (by decide) (fun c12 => ?_) (fun c12 => ?_)
      · replace hoc := (if_pos c12).symm.trans hoc
        refine r_iconst (v := 0) h dX8_count_61 (by decide) ?_
        refine r_iadd h dX8_count_62 ?_
        refine r_istore_n (L' := [some (k_p 1 (i0)), some (k_i (a1)), some (k_i ((x2 + 0))), some (k_i (x3))]) h dX8_count_63 (by decide) rfl ?_
        refine r_iinc (v := (x3 + 1)) (L' := [some (k_p 1 (i0)), some (k_i (a1)), some (k_i ((x2 + 0))), some (k_i ((x3 + 1)))]) h dX8_count_64 rfl rfl (by decide) rfl ?_
        refine r_goto (tgt := 39) h dX8_count_67 (by decide) ?_
        exact r_forget (L' := [some (k_p 1 (i0)), some (k_i (a1)), some (k_i ((x2 + 0))), some (k_i ((x3 + 1)))]) (k_le_ok ⟨rfl, ⟨rfl, ⟨rfl, ⟨rfl, trivial⟩⟩⟩⟩) (ih ((x2 + 0)) ((x3 + 1)) _ hoc kk)
      · replace hoc := (if_neg c12).symm.trans hoc
        refine r_iconst (v := 1) h dX8_count_57 (by decide) ?_
        refine r_goto (tgt := 62) h dX8_count_58 (by decide) ?_
        refine r_iadd h dX8_count_62 ?_
        refine r_istore_n (L' := [some (k_p 1 (i0)), some (k_i (a1)), some (k_i ((x2 + 1))), some (k_i (x3))]) h dX8_count_63 (by decide) rfl ?_
        refine r_iinc (v := (x3 + 1)) (L' := [some (k_p 1 (i0)), some (k_i (a1)), some (k_i ((x2 + 1))), some (k_i ((x3 + 1)))]) h dX8_count_64 rfl rfl (by decide) rfl ?_
        refine r_goto (tgt := 39) h dX8_count_67 (by decide) ?_
        exact r_forget (L' := [some (k_p 1 (i0)), some (k_i (a1)), some (k_i ((x2 + 1))), some (k_i ((x3 + 1)))]) (k_le_ok ⟨rfl, ⟨rfl, ⟨rfl, ⟨rfl, trivial⟩⟩⟩⟩) (ih ((x2 + 1)) ((x3 + 1)) _ hoc kk)
def f_X8_count_l3 (t : Nat) (i0 : Nat) (a1 : Int32) (σ : k_S) (x2 : Int32) (x3 : Int32) : Option (Int32 × Int32) := match t with
  | 0 => none
  | t + 1 => (if k_I σ 1 (i0) (28) ≤ x3 then some ((x2, x3)) else ((f_X8_isOf σ (i0) (x3) (a1)).bind fun v17 => (if v17 = 0 then f_X8_count_l3 t i0 a1 σ ((x2 + 0)) ((x3 + 1)) else f_X8_count_l3 t i0 a1 σ ((x2 + 1)) ((x3 + 1)))))
theorem j_X8_count_l3 (la : Launch) (hla : la.flags = flags0) (G : k_G) (X : k_X) (σ0 σ : k_S) (h : k_Ok X RX8 cX8_count 4) (hMe : k_Me X la G σ0 { frames := 2, cells := 0, slots := 0, locals := 45 } "count") (i0 : Nat) (a1 : Int32) : ∀ (t : Nat) (x2 : Int32) (x3 : Int32) (e : (Int32 × Int32)), f_X8_count_l3 t i0 a1 σ x2 x3 = some e → k_W X σ 0 0 70 [some (k_p 1 (i0)), some (k_i (a1)), some (k_i (e.1)), some (k_i (e.2))] [] → k_W X σ 0 0 39 [some (k_p 1 (i0)), some (k_i (a1)), some (k_i (x2)), some (k_i (x3))] [] := by
  intro t
  induction t with
  | zero =>
    intro x2 x3 e hoc kk
    cases hoc
  | succ t ih =>
    intro x2 x3 e hoc kk
    rw [f_X8_count_l3] at hoc
    refine r_iload_n h dX8_count_39 rfl ?_
    refine r_aload_n h dX8_count_40 rfl ?_
    refine r_getI h kf_X8_97 dX8_count_41 rfl rfl (by decide) rfl ?_
    refine r_icmp_ge (tgt := 70) h dX8_count_44 (by decide) (fun c16 => ?_) (fun c16 => ?_)
    · replace hoc := (if_pos c16).symm.trans hoc
      cases hoc
      exact kk
    · replace hoc := (if_neg c16).symm.trans hoc
      refine r_iload_n h dX8_count_47 rfl ?_
      refine r_aload_n h dX8_count_48 rfl ?_
      refine r_iload_n h dX8_count_49 rfl ?_
      refine r_iload_n h dX8_count_50 rfl ?_
      obtain ⟨v17, q18, hoc⟩ := k_ob hoc
      refine r_callV h hMe (rest := [k_i (x2)]) (as := [k_i (x3), k_i (a1)]) (oc := .inl (k_mI v17, σ)) (j_X8_isOf la hla G _ (i0) (x3) (a1) _ q18) kl_X8_195 dX8_count_51 rfl rfl rfl rfl rfl ⟨rfl, rfl, Nat.le_of_ble_eq_true rfl, Nat.le_of_ble_eq_true rfl, Nat.le_of_ble_eq_true rfl, Nat.le_of_ble_eq_true rfl, Nat.le_of_ble_eq_true rfl⟩ (fun E q => by cases q) (fun r s q => ?_)
      cases q
      show k_W X _ _ _ _ _ ([k_i (v17), k_i (x2)])
      refine r_if_eq (tgt := 61) h dX8_count_54 (by decide) (fun c19 => ?_) (fun c19 => ?_)
      · replace hoc := (if_pos c19).symm.trans hoc
        refine r_iconst (v := 0) h dX8_count_61 (by decide) ?_
        refine r_iadd h dX8_count_62 ?_
        refine r_istore_n (L' := [some (k_p 1 (i0)), some (k_i (a1)), some (k_i ((x2 + 0))), some (k_i (x3))]) h dX8_count_63 (by decide) rfl ?_
        refine r_iinc (v := (x3 + 1)) (L' := [some (k_p 1 (i0)), some (k_i (a1)), some (k_i ((x2 + 0))), some (k_i ((x3 + 1)))]) h dX8_count_64 rfl rfl (by decide) rfl ?_
        refine r_goto (tgt := 39) h dX8_count_67 (by decide) ?_
        exact r_forget (L' := [some (k_p 1 (i0)), some (k_i (a1)), some (k_i ((x2 + 0))), some (k_i ((x3 + 1)))]) (k_le_ok ⟨rfl, ⟨rfl, ⟨rfl, ⟨rfl, trivial⟩⟩⟩⟩) (ih ((x2 + 0)) ((x3 + 1)) _ hoc kk)
      · replace hoc := (if_neg c19).symm.trans hoc
        refine r_iconst (v := 1) h dX8_count_57 (by decide) ?_
        refine r_goto (tgt := 62) h dX8_count_58 (by decide) ?_
        refine r_iadd h dX8_count_62 ?_
        refine r_istore_n (L' := [some (k_p 1 (i0)), some (k_i (a1)), some (k_i ((x2 + 1))), some (k_i (x3))]) h dX8_count_63 (by decide) rfl ?_
        refine r_iinc (v := (x3 + 1)) (L' := [some (k_p 1 (i0)), some (k_i (a1)), some (k_i ((x2 + 1))), some (k_i ((x3 + 1)))]) h dX8_count_64 rfl rfl (by decide) rfl ?_
        refine r_goto (tgt := 39) h dX8_count_67 (by decide) ?_
        exact r_forget (L' := [some (k_p 1 (i0)), some (k_i (a1)), some (k_i ((x2 + 1))), some (k_i ((x3 + 1)))]) (k_le_ok ⟨rfl, ⟨rfl, ⟨rfl, ⟨rfl, trivial⟩⟩⟩⟩) (ih ((x2 + 1)) ((x3 + 1)) _ hoc kk)
def f_X8_count_l4 (t : Nat) (i0 : Nat) (a1 : Int32) (σ : k_S) (x2 : Int32) (x3 : Int32) : Option (Int32 × Int32) := match t with
  | 0 => none
  | t + 1 => (if k_I σ 1 (i0) (28) ≤ x3 then some ((x2, x3)) else ((f_X8_isOf σ (i0) (x3) (a1)).bind fun v24 => (if v24 = 0 then f_X8_count_l4 t i0 a1 σ ((x2 + 0)) ((x3 + 1)) else f_X8_count_l4 t i0 a1 σ ((x2 + 1)) ((x3 + 1)))))
theorem j_X8_count_l4 (la : Launch) (hla : la.flags = flags0) (G : k_G) (X : k_X) (σ0 σ : k_S) (h : k_Ok X RX8 cX8_count 4) (hMe : k_Me X la G σ0 { frames := 2, cells := 0, slots := 0, locals := 45 } "count") (i0 : Nat) (a1 : Int32) : ∀ (t : Nat) (x2 : Int32) (x3 : Int32) (e : (Int32 × Int32)), f_X8_count_l4 t i0 a1 σ x2 x3 = some e → k_W X σ 0 0 70 [some (k_p 1 (i0)), some (k_i (a1)), some (k_i (e.1)), some (k_i (e.2))] [] → k_W X σ 0 0 39 [some (k_p 1 (i0)), some (k_i (a1)), some (k_i (x2)), some (k_i (x3))] [] := by
  intro t
  induction t with
  | zero =>
    intro x2 x3 e hoc kk
    cases hoc
  | succ t ih =>
    intro x2 x3 e hoc kk
    rw [f_X8_count_l4] at hoc
    refine r_iload_n h dX8_count_39 rfl ?_
    refine r_aload_n h dX8_count_40 rfl ?_
    refine r_getI h kf_X8_97 dX8_count_41 rfl rfl (by decide) rfl ?_
    refine r_icmp_ge (tgt := 70) h dX8_count_44 (by decide) (fun c23 => ?_) (fun c23 => ?_)
    · replace hoc := (if_pos c23).symm.trans hoc
      cases hoc
      exact kk
    · replace hoc := (if_neg c23).symm.trans hoc
      refine r_iload_n h dX8_count_47 rfl ?_
      refine r_aload_n h dX8_count_48 rfl ?_
      refine r_iload_n h dX8_count_49 rfl ?_
      refine r_iload_n h dX8_count_50 rfl ?_
      obtain ⟨v24, q25, hoc⟩ := k_ob hoc
      refine r_callV h hMe (rest := [k_i (x2)]) (as := [k_i (x3), k_i (a1)]) (oc := .inl (k_mI v24, σ)) (j_X8_isOf la hla G _ (i0) (x3) (a1) _ q25) kl_X8_195 dX8_count_51 rfl rfl rfl rfl rfl ⟨rfl, rfl, Nat.le_of_ble_eq_true rfl, Nat.le_of_ble_eq_true rfl, Nat.le_of_ble_eq_true rfl, Nat.le_of_ble_eq_true rfl, Nat.le_of_ble_eq_true rfl⟩ (fun E q => by cases q) (fun r s q => ?_)
      cases q
      show k_W X _ _ _ _ _ ([k_i (v24), k_i (x2)])
      refine r_if_eq (tgt := 61) h dX8_count_54 (by decide) (fun c26 => ?_) (fun c26 => ?_)
      · replace hoc := (if_pos c26).symm.trans hoc
        refine r_iconst (v := 0) h dX8_count_61 (by decide) ?_
        refine r_iadd h dX8_count_62 ?_
        refine r_istore_n (L' := [some (k_p 1 (i0)), some (k_i (a1)), some (k_i ((x2 + 0))), some (k_i (x3))]) h dX8_count_63 (by decide) rfl ?_
        refine r_iinc (v := (x3 + 1)) (L' := [some (k_p 1 (i0)), some (k_i (a1)), some (k_i ((x2 + 0))), some (k_i ((x3 + 1)))]) h dX8_count_64 rfl rfl (by decide) rfl ?_
        refine r_goto (tgt := 39) h dX8_count_67 (by decide) ?_
        exact r_forget (L' := [some (k_p 1 (i0)), some (k_i (a1)), some (k_i ((x2 + 0))), some (k_i ((x3 + 1)))]) (k_le_ok ⟨rfl, ⟨rfl, ⟨rfl, ⟨rfl, trivial⟩⟩⟩⟩) (ih ((x2 + 0)) ((x3 + 1)) _ hoc kk)
      · replace hoc := (if_neg c26).symm.trans hoc
        refine r_iconst (v := 1) h dX8_count_57 (by decide) ?_
        refine r_goto (tgt := 62) h dX8_count_58 (by decide) ?_
        refine r_iadd h dX8_count_62 ?_
        refine r_istore_n (L' := [some (k_p 1 (i0)), some (k_i (a1)), some (k_i ((x2 + 1))), some (k_i (x3))]) h dX8_count_63 (by decide) rfl ?_
        refine r_iinc (v := (x3 + 1)) (L' := [some (k_p 1 (i0)), some (k_i (a1)), some (k_i ((x2 + 1))), some (k_i ((x3 + 1)))]) h dX8_count_64 rfl rfl (by decide) rfl ?_
        refine r_goto (tgt := 39) h dX8_count_67 (by decide) ?_
        exact r_forget (L' := [some (k_p 1 (i0)), some (k_i (a1)), some (k_i ((x2 + 1))), some (k_i ((x3 + 1)))]) (k_le_ok ⟨rfl, ⟨rfl, ⟨rfl, ⟨rfl, trivial⟩⟩⟩⟩) (ih ((x2 + 1)) ((x3 + 1)) _ hoc kk)
def f_X8_count (σ : k_S) (i0 : Nat) (a1 : Int32) : Option (Int32 × k_S) :=
  (if a1 = (111 : Int32) then ((f_X8_count_l1 200 i0 a1 (k_uI σ 1 (i0) (0) (0)) (0) (0)).bind fun v6 => some ((v6.1, (k_uI σ 1 (i0) (0) (0))))) else (if a1 = (103 : Int32) then ((f_X8_count_l2 200 i0 a1 (k_uI σ 1 (i0) (0) (0)) (0) (0)).bind fun v13 => some ((v13.1, (k_uI σ 1 (i0) (0) (0))))) else (if a1 = (98 : Int32) then ((f_X8_count_l3 200 i0 a1 (k_uI σ 1 (i0) (0) (0)) (0) (0)).bind fun v20 => some ((v20.1, (k_uI σ 1 (i0) (0) (0))))) else (if a1 = (114 : Int32) then ((f_X8_count_l4 200 i0 a1 (k_uI σ 1 (i0) (0) (0)) (0) (0)).bind fun v27 => some ((v27.1, (k_uI σ 1 (i0) (0) (0))))) else ((f_X8_fails (k_uI σ 1 (i0) (0) (0)) (i0) (1)).bind fun v29 => some ((v29.1, v29.2)))))))
theorem j_X8_count (la : Launch) (hla : la.flags = flags0) (G : k_G) (σ : k_S) (i0 : Nat) (a1 : Int32) (x : (Int32 × k_S)) (hoc : f_X8_count σ i0 a1 = some x) : k_Ct la G yX8_count (k_ws yX8_count cX8_count 4 (Option.some ClassFile.FieldType.int)) { frames := 2, cells := 0, slots := 0, locals := 45 } [k_p 1 (i0), k_i (a1)] σ (.inl (k_mI x.1, x.2)) 0 0 := by
  refine k_body hla (by decide +kernel) (k_wl rfl) (Nat.le_of_ble_eq_true rfl) (fun X h hEn hMe => ?_)
  show k_W X σ 0 0 0 [some (k_p 1 (i0)), some (k_i (a1)), none, none] []
  unfold f_X8_count at hoc
  refine r_aload_n h dX8_count_0 rfl ?_
  refine r_iconst (v := 0) h dX8_count_1 (by decide) ?_
  refine r_putI (x := 0) h kp_X8_84 dX8_count_2 rfl rfl (by decide) rfl rfl (k_fit_int _) ?_
  refine r_iload_n h dX8_count_5 rfl ?_
  refine r_bipush (v := 111) h dX8_count_6 (by decide) ?_
  refine r_icmp_eq (tgt := 35) h dX8_count_8 (by decide) (fun c1 => ?_) (fun c1 => ?_)
  · replace hoc := (if_pos c1).symm.trans hoc
    refine r_iconst (v := 0) h dX8_count_35 (by decide) ?_
    refine r_istore_n (L' := [some (k_p 1 (i0)), some (k_i (a1)), some (k_i (0)), none]) h dX8_count_36 (by decide) rfl ?_
    refine r_iconst (v := 0) h dX8_count_37 (by decide) ?_
    refine r_istore_n (L' := [some (k_p 1 (i0)), some (k_i (a1)), some (k_i (0)), some (k_i (0))]) h dX8_count_38 (by decide) rfl ?_
    obtain ⟨v6, q7, hoc⟩ := k_ob hoc
    refine j_X8_count_l1 la hla G X σ (k_uI σ 1 (i0) (0) (0)) h hMe i0 a1 200 (0) (0) _ q7 ?_
    refine r_iload_n h dX8_count_70 rfl ?_
    cases hoc
    exact r_ireturn h hEn dX8_count_71 rfl rfl rfl (by decide) (by decide)
  · replace hoc := (if_neg c1).symm.trans hoc
    refine r_iload_n h dX8_count_11 rfl ?_
    refine r_bipush (v := 103) h dX8_count_12 (by decide) ?_
    refine r_icmp_eq (tgt := 35) h dX8_count_14 (by decide) (fun c8 => ?_) (fun c8 => ?_)
    · replace hoc := (if_pos c8).symm.trans hoc
      refine r_iconst (v := 0) h dX8_count_35 (by decide) ?_
      refine r_istore_n (L' := [some (k_p 1 (i0)), some (k_i (a1)), some (k_i (0)), none]) h dX8_count_36 (by decide) rfl ?_
      refine r_iconst (v := 0) h dX8_count_37 (by decide) ?_
      refine r_istore_n (L' := [some (k_p 1 (i0)), some (k_i (a1)), some (k_i (0)), some (k_i (0))]) h dX8_count_38 (by decide) rfl ?_
      obtain ⟨v13, q14, hoc⟩ := k_ob hoc
      refine j_X8_count_l2 la hla G X σ (k_uI σ 1 (i0) (0) (0)) h hMe i0 a1 200 (0) (0) _ q14 ?_
      refine r_iload_n h dX8_count_70 rfl ?_
      cases hoc
      exact r_ireturn h hEn dX8_count_71 rfl rfl rfl (by decide) (by decide)
    · replace hoc := (if_neg c8).symm.trans hoc
      refine r_iload_n h dX8_count_17 rfl ?_
      refine r_bipush (v := 98) h dX8_count_18 (by decide) ?_
      refine r_icmp_eq (tgt := 35) h dX8_count_20 (by decide) (fun c15 => ?_) (fun c15 => ?_)
      · replace hoc := (if_pos c15).symm.trans hoc
        refine r_iconst (v := 0) h dX8_count_35 (by decide) ?_
        refine r_istore_n (L' := [some (k_p 1 (i0)), some (k_i (a1)), some (k_i (0)), none]) h dX8_count_36 (by decide) rfl ?_
        refine r_iconst (v := 0) h dX8_count_37 (by decide) ?_
        refine r_istore_n (L' := [some (k_p 1 (i0)), some (k_i (a1)), some (k_i (0)), some (k_i (0))]) h dX8_count_38 (by decide) rfl ?_
        obtain ⟨v20, q21, hoc⟩ := k_ob hoc
        refine j_X8_count_l3 la hla G X σ (k_uI σ 1 (i0) (0) (0)) h hMe i0 a1 200 (0) (0) _ q21 ?_
        refine r_iload_n h dX8_count_70 rfl ?_
        cases hoc
        exact r_ireturn h hEn dX8_count_71 rfl rfl rfl (by decide) (by decide)
      · replace hoc := (if_neg c15).symm.trans hoc
        refine r_iload_n h dX8_count_23 rfl ?_
        refine r_bipush (v := 114) h dX8_count_24 (by decide) ?_
        refine r_icmp_eq (tgt := 35) h dX8_count_26 (by decide) (fun c22 => ?_) (fun c22 => ?_)
        · replace hoc := (if_pos c22).symm.trans hoc
          refine r_iconst (v := 0) h dX8_count_35 (by decide) ?_
          refine r_istore_n (L' := [some (k_p 1 (i0)), some (k_i (a1)), some (k_i (0)), none]) h dX8_count_36 (by decide) rfl ?_
          refine r_iconst (v := 0) h dX8_count_37 (by decide) ?_
          refine r_istore_n (L' := [some (k_p 1 (i0)), some (k_i (a1)), some (k_i (0)), some (k_i (0))]) h dX8_count_38 (by decide) rfl ?_
          obtain ⟨v27, q28, hoc⟩ := k_ob hoc
          refine j_X8_count_l4 la hla G X σ (k_uI σ 1 (i0) (0) (0)) h hMe i0 a1 200 (0) (0) _ q28 ?_
          refine r_iload_n h dX8_count_70 rfl ?_
          cases hoc
          exact r_ireturn h hEn dX8_count_71 rfl rfl rfl (by decide) (by decide)
        · replace hoc := (if_neg c22).symm.trans hoc
          refine r_aload_n h dX8_count_29 rfl ?_
          refine r_iconst (v := 1) h dX8_count_30 (by decide) ?_
          obtain ⟨v29, q30, hoc⟩ := k_ob hoc
          refine r_callV h hMe (rest := []) (as := [k_i (1)]) (oc := .inl (k_mI v29.1, v29.2)) (j_X8_fails la hla G _ (i0) (1) _ q30) kl_X8_103 dX8_count_31 rfl rfl rfl rfl rfl ⟨rfl, rfl, Nat.le_of_ble_eq_true rfl, Nat.le_of_ble_eq_true rfl, Nat.le_of_ble_eq_true rfl, Nat.le_of_ble_eq_true rfl, Nat.le_of_ble_eq_true rfl⟩ (fun E q => by cases q) (fun r s q => ?_)
          cases q
          show k_W X _ _ _ _ _ ([k_i (v29.1)])
          cases hoc
          exact r_ireturn h hEn dX8_count_34 rfl rfl rfl (by decide) (by decide)
