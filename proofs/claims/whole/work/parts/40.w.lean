/-! ===== walks 10 (written by wip/whole/gen_walk.py, emit_walk.py) ===== -/
def f_X8_rule_l1 (t : Nat) (i0 : Nat) (a1 : Int32) (σ : k_S) (x2 : Int32) (x3 : Int32) : Option (Int32 × Int32) := match t with
  | 0 => none
  | t + 1 => (if k_I σ 1 (i0) (10) ≤ x3 then some ((x2, x3)) else ((k_P σ 1 (i0) (19)).bind fun j2 => (if 0 ≤ a1 ∧ (a1).toNatClampNeg < 20 then ((f_X8_inForce σ (i0) (x3) (k_I σ 33 (j2) ((a1).toNatClampNeg))).bind fun v5 => (if v5 = 0 then f_X8_rule_l1 t i0 a1 σ (x2) ((x3 + 1)) else ((k_P σ 1 (i0) (17)).bind fun j8 => (if 0 ≤ a1 ∧ (a1).toNatClampNeg < 20 then ((k_P σ 1 (i0) (1)).bind fun j11 => (if 0 ≤ x3 ∧ (x3).toNatClampNeg < 12 then (if ((k_I σ 31 (j8) ((a1).toNatClampNeg) >>> (k_I σ 20 (j11) ((x3).toNatClampNeg) &&& 31)) &&& 1) = (1 : Int32) then (if x2 < 0 then f_X8_rule_l1 t i0 a1 σ (x3) ((x3 + 1)) else ((k_P σ 1 (i0) (2)).bind fun j16 => (if 0 ≤ x3 ∧ (x3).toNatClampNeg < 12 then (if 0 ≤ x2 ∧ (x2).toNatClampNeg < 12 then (if k_I σ 21 (j16) ((x3).toNatClampNeg) < k_I σ 21 (j16) ((x2).toNatClampNeg) then f_X8_rule_l1 t i0 a1 σ (x2) ((x3 + 1)) else f_X8_rule_l1 t i0 a1 σ (x3) ((x3 + 1))) else none) else none))) else f_X8_rule_l1 t i0 a1 σ (x2) ((x3 + 1))) else none)) else none)))) else none)))
theorem j_X8_rule_l1 (la : Launch) (hla : la.flags = flags0) (G : k_G) (X : k_X) (σ0 σ : k_S) (h : k_Ok X RX8 cX8_rule 4) (hMe : k_Me X la G σ0 { frames := 1, cells := 0, slots := 0, locals := 23 } "rule") (i0 : Nat) (a1 : Int32) : ∀ (t : Nat) (x2 : Int32) (x3 : Int32) (e : (Int32 × Int32)), f_X8_rule_l1 t i0 a1 σ x2 x3 = some e → k_W X σ 0 0 72 [some (k_p 1 (i0)), some (k_i (a1)), some (k_i (e.1)), some (k_i (e.2))] [] → k_W X σ 0 0 4 [some (k_p 1 (i0)), some (k_i (a1)), some (k_i (x2)), some (k_i (x3))] [] := by
  intro t
  induction t with
  | zero =>
    intro x2 x3 e hoc kk
    cases hoc
  | succ t ih =>
    intro x2 x3 e hoc kk
    rw [f_X8_rule_l1] at hoc
    refine r_iload_n h dX8_rule_4 rfl ?_
    refine r_aload_n h dX8_rule_5 rfl ?_
    refine r_getI h kf_X8_87 dX8_rule_6 rfl rfl (by decide) rfl ?_
    refine r_icmp_ge (tgt := 72) h dX8_rule_9 (by decide) (fun c1 => ?_) (fun c1 => ?_)
    · replace hoc := (if_pos c1).symm.trans hoc
      cases hoc
      exact kk
    · replace hoc := (if_neg c1).symm.trans hoc
      refine r_aload_n h dX8_rule_12 rfl ?_
      refine r_iload_n h dX8_rule_13 rfl ?_
      refine r_aload_n h dX8_rule_14 rfl ?_
      obtain ⟨j2, q3, hoc⟩ := k_ob hoc
      refine r_getR h kf_X8_54 dX8_rule_15 rfl rfl (by decide) rfl (Eq.trans rfl q3) ?_
      refine r_iload_n h dX8_rule_18 rfl ?_
      obtain ⟨c4, hoc⟩ := k_gd hoc
      refine r_iaload (y := (a1).toNatClampNeg) (t := 0) h dX8_rule_19 rfl rfl rfl (k_xx c4.1) c4.2 (by decide) ?_
      obtain ⟨v5, q6, hoc⟩ := k_ob hoc
      refine r_callV h hMe (rest := []) (as := [k_i (x3), k_i (k_I σ 33 (j2) ((a1).toNatClampNeg))]) (oc := .inl (k_mI v5, σ)) (j_X8_inForce la hla G _ (i0) (x3) (k_I σ 33 (j2) ((a1).toNatClampNeg)) _ q6) kl_X8_120 dX8_rule_20 rfl rfl rfl rfl rfl ⟨rfl, rfl, Nat.le_of_ble_eq_true rfl, Nat.le_of_ble_eq_true rfl, Nat.le_of_ble_eq_true rfl, Nat.le_of_ble_eq_true rfl, Nat.le_of_ble_eq_true rfl⟩ (fun E q => by cases q) (fun r s q => ?_)
      cases q
      show k_W X _ _ _ _ _ ([k_i (v5)])
      refine r_if_eq (tgt := 66) h dX8_rule_23 (by decide) (fun c7 => ?_) (fun c7 => ?_)
      · replace hoc := (if_pos c7).symm.trans hoc
        refine r_iinc (v := (x3 + 1)) (L' := [some (k_p 1 (i0)), some (k_i (a1)), some (k_i (x2)), some (k_i ((x3 + 1)))]) h dX8_rule_66 rfl rfl (by decide) rfl ?_
        refine r_goto (tgt := 4) h dX8_rule_69 (by decide) ?_
        exact r_forget (L' := [some (k_p 1 (i0)), some (k_i (a1)), some (k_i (x2)), some (k_i ((x3 + 1)))]) (k_le_ok ⟨rfl, ⟨rfl, ⟨rfl, ⟨rfl, trivial⟩⟩⟩⟩) (ih (x2) ((x3 + 1)) _ hoc kk)
      · replace hoc := (if_neg c7).symm.trans hoc
        refine r_aload_n h dX8_rule_26 rfl ?_
        obtain ⟨j8, q9, hoc⟩ := k_ob hoc
        refine r_getR h kf_X8_48 dX8_rule_27 rfl rfl (by decide) rfl (Eq.trans rfl q9) ?_
        refine r_iload_n h dX8_rule_30 rfl ?_
        obtain ⟨c10, hoc⟩ := k_gd hoc
        refine r_iaload (y := (a1).toNatClampNeg) (t := 0) h dX8_rule_31 rfl rfl rfl (k_xx c10.1) c10.2 (by decide) ?_
        refine r_aload_n h dX8_rule_32 rfl ?_
        obtain ⟨j11, q12, hoc⟩ := k_ob hoc
        refine r_getR h kf_X8_9 dX8_rule_33 rfl rfl (by decide) rfl (Eq.trans rfl q12) ?_
        refine r_iload_n h dX8_rule_36 rfl ?_
        obtain ⟨c13, hoc⟩ := k_gd hoc
        refine r_iaload (y := (x3).toNatClampNeg) (t := 0) h dX8_rule_37 rfl rfl rfl (k_xx c13.1) c13.2 (by decide) ?_
        refine r_ishr (v := (k_I σ 31 (j8) ((a1).toNatClampNeg) >>> (k_I σ 20 (j11) ((x3).toNatClampNeg) &&& 31))) h dX8_rule_38 rfl ?_
        refine r_iconst (v := 1) h dX8_rule_39 (by decide) ?_
        refine r_iand h dX8_rule_40 ?_
        refine r_iconst (v := 1) h dX8_rule_41 (by decide) ?_
        refine r_icmp_ne (tgt := 66) h dX8_rule_42 (by decide) (fun c14 => ?_) (fun c14 => ?_)
        · replace hoc := (if_neg c14).symm.trans hoc
          refine r_iinc (v := (x3 + 1)) (L' := [some (k_p 1 (i0)), some (k_i (a1)), some (k_i (x2)), some (k_i ((x3 + 1)))]) h dX8_rule_66 rfl rfl (by decide) rfl ?_
          refine r_goto (tgt := 4) h dX8_rule_69 (by decide) ?_
          exact r_forget (L' := [some (k_p 1 (i0)), some (k_i (a1)), some (k_i (x2)), some (k_i ((x3 + 1)))]) (k_le_ok ⟨rfl, ⟨rfl, ⟨rfl, ⟨rfl, trivial⟩⟩⟩⟩) (ih (x2) ((x3 + 1)) _ hoc kk)
        · replace hoc := (if_pos c14).symm.trans hoc
          refine r_iload_n h dX8_rule_45 rfl ?_
          refine r_if_lt (tgt := 64) h dX8_rule_46 (by decide) (fun c15 => ?_) (fun c15 => ?_)
          · replace hoc := (if_pos c15).symm.trans hoc
            refine r_iload_n h dX8_rule_64 rfl ?_
            refine r_istore_n (L' := [some (k_p 1 (i0)), some (k_i (a1)), some (k_i (x3)), some (k_i (x3))]) h dX8_rule_65 (by decide) rfl ?_
            refine r_iinc (v := (x3 + 1)) (L' := [some (k_p 1 (i0)), some (k_i (a1)), some (k_i (x3)), some (k_i ((x3 + 1)))]) h dX8_rule_66 rfl rfl (by decide) rfl ?_
            refine r_goto (tgt := 4) h dX8_rule_69 (by decide) ?_
            exact r_forget (L' := [some (k_p 1 (i0)), some (k_i (a1)), some (k_i (x3)), some (k_i ((x3 + 1)))]) (k_le_ok ⟨rfl, ⟨rfl, ⟨rfl, ⟨rfl, trivial⟩⟩⟩⟩) (ih (x3) ((x3 + 1)) _ hoc kk)
          · replace hoc := (if_neg c15).symm.trans hoc
            refine r_aload_n h dX8_rule_49 rfl ?_
            obtain ⟨j16, q17, hoc⟩ := k_ob hoc
            refine r_getR h kf_X8_13 dX8_rule_50 rfl rfl (by decide) rfl (Eq.trans rfl q17) ?_
            refine r_iload_n h dX8_rule_53 rfl ?_
            obtain ⟨c18, hoc⟩ := k_gd hoc
            refine r_iaload (y := (x3).toNatClampNeg) (t := 0) h dX8_rule_54 rfl rfl rfl (k_xx c18.1) c18.2 (by decide) ?_
            refine r_aload_n h dX8_rule_55 rfl ?_
            refine r_getR h kf_X8_13 dX8_rule_56 rfl rfl (by decide) rfl (Eq.trans rfl q17) ?_
            refine r_iload_n h dX8_rule_59 rfl ?_
            obtain ⟨c19, hoc⟩ := k_gd hoc
            refine r_iaload (y := (x2).toNatClampNeg) (t := 0) h dX8_rule_60 rfl rfl rfl (k_xx c19.1) c19.2 (by decide) ?_
            refine r_icmp_lt (tgt := 66) h dX8_rule_61 (by decide) (fun c20 => ?_) (fun c20 => ?_)
            · replace hoc := (if_pos c20).symm.trans hoc
              refine r_iinc (v := (x3 + 1)) (L' := [some (k_p 1 (i0)), some (k_i (a1)), some (k_i (x2)), some (k_i ((x3 + 1)))]) h dX8_rule_66 rfl rfl (by decide) rfl ?_
              refine r_goto (tgt := 4) h dX8_rule_69 (by decide) ?_
              exact r_forget (L' := [some (k_p 1 (i0)), some (k_i (a1)), some (k_i (x2)), some (k_i ((x3 + 1)))]) (k_le_ok ⟨rfl, ⟨rfl, ⟨rfl, ⟨rfl, trivial⟩⟩⟩⟩) (ih (x2) ((x3 + 1)) _ hoc kk)
            · replace hoc := (if_neg c20).symm.trans hoc
              refine r_iload_n h dX8_rule_64 rfl ?_
              refine r_istore_n (L' := [some (k_p 1 (i0)), some (k_i (a1)), some (k_i (x3)), some (k_i (x3))]) h dX8_rule_65 (by decide) rfl ?_
              refine r_iinc (v := (x3 + 1)) (L' := [some (k_p 1 (i0)), some (k_i (a1)), some (k_i (x3)), some (k_i ((x3 + 1)))]) h dX8_rule_66 rfl rfl (by decide) rfl ?_
              refine r_goto (tgt := 4) h dX8_rule_69 (by decide) ?_
              exact r_forget (L' := [some (k_p 1 (i0)), some (k_i (a1)), some (k_i (x3)), some (k_i ((x3 + 1)))]) (k_le_ok ⟨rfl, ⟨rfl, ⟨rfl, ⟨rfl, trivial⟩⟩⟩⟩) (ih (x3) ((x3 + 1)) _ hoc kk)
def f_X8_rule (σ : k_S) (i0 : Nat) (a1 : Int32) : Option Int32 :=
  ((f_X8_rule_l1 200 i0 a1 σ (-1) (0)).bind fun v21 => some (v21.1))
theorem j_X8_rule (la : Launch) (hla : la.flags = flags0) (G : k_G) (σ : k_S) (i0 : Nat) (a1 : Int32) (x : Int32) (hoc : f_X8_rule σ i0 a1 = some x) : k_Ct la G yX8_rule (k_ws yX8_rule cX8_rule 4 (Option.some ClassFile.FieldType.int)) { frames := 1, cells := 0, slots := 0, locals := 23 } [k_p 1 (i0), k_i (a1)] σ (.inl (k_mI x, σ)) 0 0 := by
  refine k_body hla (by decide +kernel) (k_wl rfl) (Nat.le_of_ble_eq_true rfl) (fun X h hEn hMe => ?_)
  show k_W X σ 0 0 0 [some (k_p 1 (i0)), some (k_i (a1)), none, none] []
  unfold f_X8_rule at hoc
  refine r_iconst (v := -1) h dX8_rule_0 (by decide) ?_
  refine r_istore_n (L' := [some (k_p 1 (i0)), some (k_i (a1)), some (k_i (-1)), none]) h dX8_rule_1 (by decide) rfl ?_
  refine r_iconst (v := 0) h dX8_rule_2 (by decide) ?_
  refine r_istore_n (L' := [some (k_p 1 (i0)), some (k_i (a1)), some (k_i (-1)), some (k_i (0))]) h dX8_rule_3 (by decide) rfl ?_
  obtain ⟨v21, q22, hoc⟩ := k_ob hoc
  refine j_X8_rule_l1 la hla G X σ σ h hMe i0 a1 200 (-1) (0) _ q22 ?_
  refine r_iload_n h dX8_rule_72 rfl ?_
  cases hoc
  exact r_ireturn h hEn dX8_rule_73 rfl rfl rfl (by decide) (by decide)
def f_X8_applying (σ : k_S) (i0 : Nat) (a1 : Int32) : Option (Int32 × k_S) :=
  ((f_X8_isReport (k_uI σ 1 (i0) (0) (0)) (i0) (a1)).bind fun v1 => (if v1 = 0 then ((f_X8_fails (k_uI σ 1 (i0) (0) (0)) (i0) (1)).bind fun v11 => some ((v11.1, v11.2))) else ((f_X8_rule (k_uI σ 1 (i0) (0) (0)) (i0) (a1)).bind fun v4 => (if 0 ≤ v4 then ((f_X8_rule (k_uI σ 1 (i0) (0) (0)) (i0) (a1)).bind fun v7 => some ((v7, (k_uI σ 1 (i0) (0) (0))))) else ((f_X8_fails (k_uI σ 1 (i0) (0) (0)) (i0) (2)).bind fun v9 => some ((v9.1, v9.2)))))))
theorem j_X8_applying (la : Launch) (hla : la.flags = flags0) (G : k_G) (σ : k_S) (i0 : Nat) (a1 : Int32) (x : (Int32 × k_S)) (hoc : f_X8_applying σ i0 a1 = some x) : k_Ct la G yX8_applying (k_ws yX8_applying cX8_applying 2 (Option.some ClassFile.FieldType.int)) { frames := 2, cells := 0, slots := 0, locals := 46 } [k_p 1 (i0), k_i (a1)] σ (.inl (k_mI x.1, x.2)) 0 0 := by
  refine k_body hla (by decide +kernel) (k_wl rfl) (Nat.le_of_ble_eq_true rfl) (fun X h hEn hMe => ?_)
  show k_W X σ 0 0 0 [some (k_p 1 (i0)), some (k_i (a1))] []
  unfold f_X8_applying at hoc
  refine r_aload_n h dX8_applying_0 rfl ?_
  refine r_iconst (v := 0) h dX8_applying_1 (by decide) ?_
  refine r_putI (x := 0) h kp_X8_84 dX8_applying_2 rfl rfl (by decide) rfl rfl (k_fit_int _) ?_
  refine r_aload_n h dX8_applying_5 rfl ?_
  refine r_iload_n h dX8_applying_6 rfl ?_
  obtain ⟨v1, q2, hoc⟩ := k_ob hoc
  refine r_callV h hMe (rest := []) (as := [k_i (a1)]) (oc := .inl (k_mI v1, (k_uI σ 1 (i0) (0) (0)))) (j_X8_isReport la hla G _ (i0) (a1) _ q2) kl_X8_124 dX8_applying_7 rfl rfl rfl rfl rfl ⟨rfl, rfl, Nat.le_of_ble_eq_true rfl, Nat.le_of_ble_eq_true rfl, Nat.le_of_ble_eq_true rfl, Nat.le_of_ble_eq_true rfl, Nat.le_of_ble_eq_true rfl⟩ (fun E q => by cases q) (fun r s q => ?_)
  cases q
  show k_W X _ _ _ _ _ ([k_i (v1)])
  refine r_if_ne (tgt := 19) h dX8_applying_10 (by decide) (fun c3 => ?_) (fun c3 => ?_)
  · replace hoc := (if_neg c3).symm.trans hoc
    refine r_aload_n h dX8_applying_19 rfl ?_
    refine r_iload_n h dX8_applying_20 rfl ?_
    obtain ⟨v4, q5, hoc⟩ := k_ob hoc
    refine r_callV h hMe (rest := []) (as := [k_i (a1)]) (oc := .inl (k_mI v4, (k_uI σ 1 (i0) (0) (0)))) (j_X8_rule la hla G _ (i0) (a1) _ q5) kl_X8_127 dX8_applying_21 rfl rfl rfl rfl rfl ⟨rfl, rfl, Nat.le_of_ble_eq_true rfl, Nat.le_of_ble_eq_true rfl, Nat.le_of_ble_eq_true rfl, Nat.le_of_ble_eq_true rfl, Nat.le_of_ble_eq_true rfl⟩ (fun E q => by cases q) (fun r s q => ?_)
    cases q
    show k_W X _ _ _ _ _ ([k_i (v4)])
    refine r_if_ge (tgt := 35) h dX8_applying_24 (by decide) (fun c6 => ?_) (fun c6 => ?_)
    · replace hoc := (if_pos c6).symm.trans hoc
      refine r_aload_n h dX8_applying_35 rfl ?_
      refine r_iload_n h dX8_applying_36 rfl ?_
      obtain ⟨v7, q8, hoc⟩ := k_ob hoc
      refine r_callV h hMe (rest := []) (as := [k_i (a1)]) (oc := .inl (k_mI v7, (k_uI σ 1 (i0) (0) (0)))) (j_X8_rule la hla G _ (i0) (a1) _ q8) kl_X8_127 dX8_applying_37 rfl rfl rfl rfl rfl ⟨rfl, rfl, Nat.le_of_ble_eq_true rfl, Nat.le_of_ble_eq_true rfl, Nat.le_of_ble_eq_true rfl, Nat.le_of_ble_eq_true rfl, Nat.le_of_ble_eq_true rfl⟩ (fun E q => by cases q) (fun r s q => ?_)
      cases q
      show k_W X _ _ _ _ _ ([k_i (v7)])
      cases hoc
      exact r_ireturn h hEn dX8_applying_40 rfl rfl rfl (by decide) (by decide)
    · replace hoc := (if_neg c6).symm.trans hoc
      refine r_aload_n h dX8_applying_27 rfl ?_
      refine r_iconst (v := 2) h dX8_applying_28 (by decide) ?_
      obtain ⟨v9, q10, hoc⟩ := k_ob hoc
      refine r_callV h hMe (rest := []) (as := [k_i (2)]) (oc := .inl (k_mI v9.1, v9.2)) (j_X8_fails la hla G _ (i0) (2) _ q10) kl_X8_103 dX8_applying_29 rfl rfl rfl rfl rfl ⟨rfl, rfl, Nat.le_of_ble_eq_true rfl, Nat.le_of_ble_eq_true rfl, Nat.le_of_ble_eq_true rfl, Nat.le_of_ble_eq_true rfl, Nat.le_of_ble_eq_true rfl⟩ (fun E q => by cases q) (fun r s q => ?_)
      cases q
      show k_W X _ _ _ _ _ ([k_i (v9.1)])
      refine r_goto (tgt := 40) h dX8_applying_32 (by decide) ?_
      cases hoc
      exact r_ireturn h hEn dX8_applying_40 rfl rfl rfl (by decide) (by decide)
  · replace hoc := (if_pos c3).symm.trans hoc
    refine r_aload_n h dX8_applying_13 rfl ?_
    refine r_iconst (v := 1) h dX8_applying_14 (by decide) ?_
    obtain ⟨v11, q12, hoc⟩ := k_ob hoc
    refine r_callV h hMe (rest := []) (as := [k_i (1)]) (oc := .inl (k_mI v11.1, v11.2)) (j_X8_fails la hla G _ (i0) (1) _ q12) kl_X8_103 dX8_applying_15 rfl rfl rfl rfl rfl ⟨rfl, rfl, Nat.le_of_ble_eq_true rfl, Nat.le_of_ble_eq_true rfl, Nat.le_of_ble_eq_true rfl, Nat.le_of_ble_eq_true rfl, Nat.le_of_ble_eq_true rfl⟩ (fun E q => by cases q) (fun r s q => ?_)
    cases q
    show k_W X _ _ _ _ _ ([k_i (v11.1)])
    cases hoc
    exact r_ireturn h hEn dX8_applying_18 rfl rfl rfl (by decide) (by decide)
def f_X8_conflicts_l2 (t : Nat) (i0 : Nat) (a1 : Int32) (b3 : Int32) (σ : k_S) (x2 : Int32) (x4 : Int32) : Option (Int32 × Int32) := match t with
  | 0 => none
  | t + 1 => (if b3 ≤ x4 then some ((x2, x4)) else ((f_X8_inForce σ (i0) (b3) (a1)).bind fun v6 => (if v6 = 0 then f_X8_conflicts_l2 t i0 a1 b3 σ ((x2 + 0)) ((x4 + 1)) else ((f_X8_inForce σ (i0) (x4) (a1)).bind fun v9 => (if v9 = 0 then f_X8_conflicts_l2 t i0 a1 b3 σ ((x2 + 0)) ((x4 + 1)) else ((k_P σ 1 (i0) (1)).bind fun j12 => (if 0 ≤ b3 ∧ (b3).toNatClampNeg < 12 then (if 0 ≤ x4 ∧ (x4).toNatClampNeg < 12 then (if k_I σ 20 (j12) ((b3).toNatClampNeg) = k_I σ 20 (j12) ((x4).toNatClampNeg) then ((k_P σ 1 (i0) (2)).bind fun j17 => (if 0 ≤ b3 ∧ (b3).toNatClampNeg < 12 then (if 0 ≤ x4 ∧ (x4).toNatClampNeg < 12 then (if k_I σ 21 (j17) ((b3).toNatClampNeg) = k_I σ 21 (j17) ((x4).toNatClampNeg) then ((k_P σ 1 (i0) (9)).bind fun j22 => (if 0 ≤ b3 ∧ (b3).toNatClampNeg < 12 then (if 0 ≤ x4 ∧ (x4).toNatClampNeg < 12 then (if k_I σ 28 (j22) ((b3).toNatClampNeg) = k_I σ 28 (j22) ((x4).toNatClampNeg) then f_X8_conflicts_l2 t i0 a1 b3 σ ((x2 + 0)) ((x4 + 1)) else f_X8_conflicts_l2 t i0 a1 b3 σ ((x2 + 1)) ((x4 + 1))) else none) else none)) else f_X8_conflicts_l2 t i0 a1 b3 σ ((x2 + 0)) ((x4 + 1))) else none) else none)) else f_X8_conflicts_l2 t i0 a1 b3 σ ((x2 + 0)) ((x4 + 1))) else none) else none)))))))
theorem j_X8_conflicts_l2 (la : Launch) (hla : la.flags = flags0) (G : k_G) (X : k_X) (σ0 σ : k_S) (h : k_Ok X RX8 cX8_conflicts 5) (hMe : k_Me X la G σ0 { frames := 1, cells := 0, slots := 0, locals := 23 } "conflicts") (i0 : Nat) (a1 : Int32) (b3 : Int32) : ∀ (t : Nat) (x2 : Int32) (x4 : Int32) (e : (Int32 × Int32)), f_X8_conflicts_l2 t i0 a1 b3 σ x2 x4 = some e → k_W X σ 0 0 124 [some (k_p 1 (i0)), some (k_i (a1)), some (k_i (e.1)), some (k_i (b3)), some (k_i (e.2))] [] → k_W X σ 0 0 37 [some (k_p 1 (i0)), some (k_i (a1)), some (k_i (x2)), some (k_i (b3)), some (k_i (x4))] [] := by
  intro t
  induction t with
  | zero =>
    intro x2 x4 e hoc kk
    cases hoc
  | succ t ih =>
    intro x2 x4 e hoc kk
    rw [f_X8_conflicts_l2] at hoc
    refine r_iload h dX8_conflicts_37 rfl ?_
    refine r_iload_n h dX8_conflicts_39 rfl ?_
    refine r_icmp_ge (tgt := 124) h dX8_conflicts_40 (by decide) (fun c5 => ?_) (fun c5 => ?_)
    · replace hoc := (if_pos c5).symm.trans hoc
      cases hoc
      exact kk
    · replace hoc := (if_neg c5).symm.trans hoc
      refine r_iload_n h dX8_conflicts_43 rfl ?_
      refine r_aload_n h dX8_conflicts_44 rfl ?_
      refine r_iload_n h dX8_conflicts_45 rfl ?_
      refine r_iload_n h dX8_conflicts_46 rfl ?_
      obtain ⟨v6, q7, hoc⟩ := k_ob hoc
      refine r_callV h hMe (rest := [k_i (x2)]) (as := [k_i (b3), k_i (a1)]) (oc := .inl (k_mI v6, σ)) (j_X8_inForce la hla G _ (i0) (b3) (a1) _ q7) kl_X8_120 dX8_conflicts_47 rfl rfl rfl rfl rfl ⟨rfl, rfl, Nat.le_of_ble_eq_true rfl, Nat.le_of_ble_eq_true rfl, Nat.le_of_ble_eq_true rfl, Nat.le_of_ble_eq_true rfl, Nat.le_of_ble_eq_true rfl⟩ (fun E q => by cases q) (fun r s q => ?_)
      cases q
      show k_W X _ _ _ _ _ ([k_i (v6), k_i (x2)])
      refine r_if_eq (tgt := 115) h dX8_conflicts_50 (by decide) (fun c8 => ?_) (fun c8 => ?_)
      · replace hoc := (if_pos c8).symm.trans hoc
        refine r_iconst (v := 0) h dX8_conflicts_115 (by decide) ?_
        refine r_iadd h dX8_conflicts_116 ?_
        refine r_istore_n (L' := [some (k_p 1 (i0)), some (k_i (a1)), some (k_i ((x2 + 0))), some (k_i (b3)), some (k_i (x4))]) h dX8_conflicts_117 (by decide) rfl ?_
        refine r_iinc (v := (x4 + 1)) (L' := [some (k_p 1 (i0)), some (k_i (a1)), some (k_i ((x2 + 0))), some (k_i (b3)), some (k_i ((x4 + 1)))]) h dX8_conflicts_118 rfl rfl (by decide) rfl ?_
        refine r_goto (tgt := 37) h dX8_conflicts_121 (by decide) ?_
        exact r_forget (L' := [some (k_p 1 (i0)), some (k_i (a1)), some (k_i ((x2 + 0))), some (k_i (b3)), some (k_i ((x4 + 1)))]) (k_le_ok ⟨rfl, ⟨rfl, ⟨rfl, ⟨rfl, ⟨rfl, trivial⟩⟩⟩⟩⟩) (ih ((x2 + 0)) ((x4 + 1)) _ hoc kk)
      · replace hoc := (if_neg c8).symm.trans hoc
        refine r_aload_n h dX8_conflicts_53 rfl ?_
        refine r_iload h dX8_conflicts_54 rfl ?_
        refine r_iload_n h dX8_conflicts_56 rfl ?_
        obtain ⟨v9, q10, hoc⟩ := k_ob hoc
        refine r_callV h hMe (rest := [k_i (x2)]) (as := [k_i (x4), k_i (a1)]) (oc := .inl (k_mI v9, σ)) (j_X8_inForce la hla G _ (i0) (x4) (a1) _ q10) kl_X8_120 dX8_conflicts_57 rfl rfl rfl rfl rfl ⟨rfl, rfl, Nat.le_of_ble_eq_true rfl, Nat.le_of_ble_eq_true rfl, Nat.le_of_ble_eq_true rfl, Nat.le_of_ble_eq_true rfl, Nat.le_of_ble_eq_true rfl⟩ (fun E q => by cases q) (fun r s q => ?_)
        cases q
        show k_W X _ _ _ _ _ ([k_i (v9), k_i (x2)])
        refine r_if_eq (tgt := 115) h dX8_conflicts_60 (by decide) (fun c11 => ?_) (fun c11 => ?_)
        · replace hoc := (if_pos c11).symm.trans hoc
          refine r_iconst (v := 0) h dX8_conflicts_115 (by decide) ?_
          refine r_iadd h dX8_conflicts_116 ?_
          refine r_istore_n (L' := [some (k_p 1 (i0)), some (k_i (a1)), some (k_i ((x2 + 0))), some (k_i (b3)), some (k_i (x4))]) h dX8_conflicts_117 (by decide) rfl ?_
          refine r_iinc (v := (x4 + 1)) (L' := [some (k_p 1 (i0)), some (k_i (a1)), some (k_i ((x2 + 0))), some (k_i (b3)), some (k_i ((x4 + 1)))]) h dX8_conflicts_118 rfl rfl (by decide) rfl ?_
          refine r_goto (tgt := 37) h dX8_conflicts_121 (by decide) ?_
          exact r_forget (L' := [some (k_p 1 (i0)), some (k_i (a1)), some (k_i ((x2 + 0))), some (k_i (b3)), some (k_i ((x4 + 1)))]) (k_le_ok ⟨rfl, ⟨rfl, ⟨rfl, ⟨rfl, ⟨rfl, trivial⟩⟩⟩⟩⟩) (ih ((x2 + 0)) ((x4 + 1)) _ hoc kk)
        · replace hoc := (if_neg c11).symm.trans hoc
          refine r_aload_n h dX8_conflicts_63 rfl ?_
          obtain ⟨j12, q13, hoc⟩ := k_ob hoc
          refine r_getR h kf_X8_9 dX8_conflicts_64 rfl rfl (by decide) rfl (Eq.trans rfl q13) ?_
          refine r_iload_n h dX8_conflicts_67 rfl ?_
          obtain ⟨c14, hoc⟩ := k_gd hoc
          refine r_iaload (y := (b3).toNatClampNeg) (t := 0) h dX8_conflicts_68 rfl rfl rfl (k_xx c14.1) c14.2 (by decide) ?_
          refine r_aload_n h dX8_conflicts_69 rfl ?_
          refine r_getR h kf_X8_9 dX8_conflicts_70 rfl rfl (by decide) rfl (Eq.trans rfl q13) ?_
          refine r_iload h dX8_conflicts_73 rfl ?_
          obtain ⟨c15, hoc⟩ := k_gd hoc
          refine r_iaload (y := (x4).toNatClampNeg) (t := 0) h dX8_conflicts_75 rfl rfl rfl (k_xx c15.1) c15.2 (by decide) ?_
          refine r_icmp_ne (tgt := 115) h dX8_conflicts_76 (by decide) (fun c16 => ?_) (fun c16 => ?_)
          · replace hoc := (if_neg c16).symm.trans hoc
            refine r_iconst (v := 0) h dX8_conflicts_115 (by decide) ?_
            refine r_iadd h dX8_conflicts_116 ?_
            refine r_istore_n (L' := [some (k_p 1 (i0)), some (k_i (a1)), some (k_i ((x2 + 0))), some (k_i (b3)), some (k_i (x4))]) h dX8_conflicts_117 (by decide) rfl ?_
            refine r_iinc (v := (x4 + 1)) (L' := [some (k_p 1 (i0)), some (k_i (a1)), some (k_i ((x2 + 0))), some (k_i (b3)), some (k_i ((x4 + 1)))]) h dX8_conflicts_118 rfl rfl (by decide) rfl ?_
            refine r_goto (tgt := 37) h dX8_conflicts_121 (by decide) ?_
            exact r_forget (L' := [some (k_p 1 (i0)), some (k_i (a1)), some (k_i ((x2 + 0))), some (k_i (b3)), some (k_i ((x4 + 1)))]) (k_le_ok ⟨rfl, ⟨rfl, ⟨rfl, ⟨rfl, ⟨rfl, trivial⟩⟩⟩⟩⟩) (ih ((x2 + 0)) ((x4 + 1)) _ hoc kk)
          · replace hoc := (if_pos c16).symm.trans hoc
            refine r_aload_n h dX8_conflicts_79 rfl ?_
            obtain ⟨j17, q18, hoc⟩ := k_ob hoc
            refine r_getR h kf_X8_13 dX8_conflicts_80 rfl rfl (by decide) rfl (Eq.trans rfl q18) ?_
            refine r_iload_n h dX8_conflicts_83 rfl ?_
            obtain ⟨c19, hoc⟩ := k_gd hoc
            refine r_iaload (y := (b3).toNatClampNeg) (t := 0) h dX8_conflicts_84 rfl rfl rfl (k_xx c19.1) c19.2 (by decide) ?_
            refine r_aload_n h dX8_conflicts_85 rfl ?_
            refine r_getR h kf_X8_13 dX8_conflicts_86 rfl rfl (by decide) rfl (Eq.trans rfl q18) ?_
            refine r_iload h dX8_conflicts_89 rfl ?_
            obtain ⟨c20, hoc⟩ := k_gd hoc
            refine r_iaload (y := (x4).toNatClampNeg) (t := 0) h dX8_conflicts_91 rfl rfl rfl (k_xx c20.1) c20.2 (by decide) ?_
            refine r_icmp_ne (tgt := 115) h dX8_conflicts_92 (by decide) (fun c21 => ?_) (fun c21 => ?_)
            · replace hoc := (if_neg c21).symm.trans hoc
              refine r_iconst (v := 0) h dX8_conflicts_115 (by decide) ?_
              refine r_iadd h dX8_conflicts_116 ?_
              refine r_istore_n (L' := [some (k_p 1 (i0)), some (k_i (a1)), some (k_i ((x2 + 0))), some (k_i (b3)), some (k_i (x4))]) h dX8_conflicts_117 (by decide) rfl ?_
              refine r_iinc (v := (x4 + 1)) (L' := [some (k_p 1 (i0)), some (k_i (a1)), some (k_i ((x2 + 0))), some (k_i (b3)), some (k_i ((x4 + 1)))]) h dX8_conflicts_118 rfl rfl (by decide) rfl ?_
              refine r_goto (tgt := 37) h dX8_conflicts_121 (by decide) ?_
              exact r_forget (L' := [some (k_p 1 (i0)), some (k_i (a1)), some (k_i ((x2 + 0))), some (k_i (b3)), some (k_i ((x4 + 1)))]) (k_le_ok ⟨rfl, ⟨rfl, ⟨rfl, ⟨rfl, ⟨rfl, trivial⟩⟩⟩⟩⟩) (ih ((x2 + 0)) ((x4 + 1)) _ hoc kk)
            · replace hoc := (if_pos c21).symm.trans hoc
              refine r_aload_n h dX8_conflicts_95 rfl ?_
              obtain ⟨j22, q23, hoc⟩ := k_ob hoc
              refine r_getR h kf_X8_34 dX8_conflicts_96 rfl rfl (by decide) rfl (Eq.trans rfl q23) ?_
              refine r_iload_n h dX8_conflicts_99 rfl ?_
              obtain ⟨c24, hoc⟩ := k_gd hoc
              refine r_baload (y := (b3).toNatClampNeg) (t := 0) h dX8_conflicts_100 rfl rfl rfl (k_xx c24.1) c24.2 (by decide) ?_
              refine r_aload_n h dX8_conflicts_101 rfl ?_
              refine r_getR h kf_X8_34 dX8_conflicts_102 rfl rfl (by decide) rfl (Eq.trans rfl q23) ?_
              refine r_iload h dX8_conflicts_105 rfl ?_
              obtain ⟨c25, hoc⟩ := k_gd hoc
              refine r_baload (y := (x4).toNatClampNeg) (t := 0) h dX8_conflicts_107 rfl rfl rfl (k_xx c25.1) c25.2 (by decide) ?_
              refine r_icmp_eq (tgt := 115) h dX8_conflicts_108 (by decide) (fun c26 => ?_) (fun c26 => ?_)
              · replace hoc := (if_pos c26).symm.trans hoc
                refine r_iconst (v := 0) h dX8_conflicts_115 (by decide) ?_
                refine r_iadd h dX8_conflicts_116 ?_
                refine r_istore_n (L' := [some (k_p 1 (i0)), some (k_i (a1)), some (k_i ((x2 + 0))), some (k_i (b3)), some (k_i (x4))]) h dX8_conflicts_117 (by decide) rfl ?_
                refine r_iinc (v := (x4 + 1)) (L' := [some (k_p 1 (i0)), some (k_i (a1)), some (k_i ((x2 + 0))), some (k_i (b3)), some (k_i ((x4 + 1)))]) h dX8_conflicts_118 rfl rfl (by decide) rfl ?_
                refine r_goto (tgt := 37) h dX8_conflicts_121 (by decide) ?_
                exact r_forget (L' := [some (k_p 1 (i0)), some (k_i (a1)), some (k_i ((x2 + 0))), some (k_i (b3)), some (k_i ((x4 + 1)))]) (k_le_ok ⟨rfl, ⟨rfl, ⟨rfl, ⟨rfl, ⟨rfl, trivial⟩⟩⟩⟩⟩) (ih ((x2 + 0)) ((x4 + 1)) _ hoc kk)
              · replace hoc := (if_neg c26).symm.trans hoc
                refine r_iconst (v := 1) h dX8_conflicts_111 (by decide) ?_
                refine r_goto (tgt := 116) h dX8_conflicts_112 (by decide) ?_
                refine r_iadd h dX8_conflicts_116 ?_
                refine r_istore_n (L' := [some (k_p 1 (i0)), some (k_i (a1)), some (k_i ((x2 + 1))), some (k_i (b3)), some (k_i (x4))]) h dX8_conflicts_117 (by decide) rfl ?_
                refine r_iinc (v := (x4 + 1)) (L' := [some (k_p 1 (i0)), some (k_i (a1)), some (k_i ((x2 + 1))), some (k_i (b3)), some (k_i ((x4 + 1)))]) h dX8_conflicts_118 rfl rfl (by decide) rfl ?_
                refine r_goto (tgt := 37) h dX8_conflicts_121 (by decide) ?_
                exact r_forget (L' := [some (k_p 1 (i0)), some (k_i (a1)), some (k_i ((x2 + 1))), some (k_i (b3)), some (k_i ((x4 + 1)))]) (k_le_ok ⟨rfl, ⟨rfl, ⟨rfl, ⟨rfl, ⟨rfl, trivial⟩⟩⟩⟩⟩) (ih ((x2 + 1)) ((x4 + 1)) _ hoc kk)
def f_X8_conflicts_l1 (t : Nat) (i0 : Nat) (a1 : Int32) (σ : k_S) (x2 : Int32) (x3 : Int32) : Option (Int32 × Int32) := match t with
  | 0 => none
  | t + 1 => (if k_I σ 1 (i0) (10) ≤ x3 then some ((x2, x3)) else ((f_X8_conflicts_l2 200 i0 a1 (x3) σ (x2) (0)).bind fun v27 => f_X8_conflicts_l1 t i0 a1 σ (v27.1) ((x3 + 1))))
theorem j_X8_conflicts_l1 (la : Launch) (hla : la.flags = flags0) (G : k_G) (X : k_X) (σ0 σ : k_S) (h : k_Ok X RX8 cX8_conflicts 5) (hMe : k_Me X la G σ0 { frames := 1, cells := 0, slots := 0, locals := 23 } "conflicts") (i0 : Nat) (a1 : Int32) : ∀ (t : Nat) (x2 : Int32) (x3 : Int32) (e : (Int32 × Int32)), f_X8_conflicts_l1 t i0 a1 σ x2 x3 = some e → k_W X σ 0 0 130 [some (k_p 1 (i0)), some (k_i (a1)), some (k_i (e.1)), some (k_i (e.2)), none] [] → k_W X σ 0 0 26 [some (k_p 1 (i0)), some (k_i (a1)), some (k_i (x2)), some (k_i (x3)), none] [] := by
  intro t
  induction t with
  | zero =>
    intro x2 x3 e hoc kk
    cases hoc
  | succ t ih =>
    intro x2 x3 e hoc kk
    rw [f_X8_conflicts_l1] at hoc
    refine r_iload_n h dX8_conflicts_26 rfl ?_
    refine r_aload_n h dX8_conflicts_27 rfl ?_
    refine r_getI h kf_X8_87 dX8_conflicts_28 rfl rfl (by decide) rfl ?_
    refine r_icmp_ge (tgt := 130) h dX8_conflicts_31 (by decide) (fun c4 => ?_) (fun c4 => ?_)
    · replace hoc := (if_pos c4).symm.trans hoc
      cases hoc
      exact kk
    · replace hoc := (if_neg c4).symm.trans hoc
      refine r_iconst (v := 0) h dX8_conflicts_34 (by decide) ?_
      refine r_istore (L' := [some (k_p 1 (i0)), some (k_i (a1)), some (k_i (x2)), some (k_i (x3)), some (k_i (0))]) h dX8_conflicts_35 (by decide) rfl ?_
      obtain ⟨v27, q28, hoc⟩ := k_ob hoc
      refine j_X8_conflicts_l2 la hla G X σ0 σ h hMe i0 a1 (x3) 200 (x2) (0) _ q28 ?_
      refine r_iinc (v := (x3 + 1)) (L' := [some (k_p 1 (i0)), some (k_i (a1)), some (k_i (v27.1)), some (k_i ((x3 + 1))), some (k_i (v27.2))]) h dX8_conflicts_124 rfl rfl (by decide) rfl ?_
      refine r_goto (tgt := 26) h dX8_conflicts_127 (by decide) ?_
      exact r_forget (L' := [some (k_p 1 (i0)), some (k_i (a1)), some (k_i (v27.1)), some (k_i ((x3 + 1))), none]) (k_le_ok ⟨rfl, ⟨rfl, ⟨rfl, ⟨rfl, trivial⟩⟩⟩⟩) (ih (v27.1) ((x3 + 1)) _ hoc kk)
def f_X8_conflicts (σ : k_S) (i0 : Nat) (a1 : Int32) : Option (Int32 × k_S) :=
  ((f_X8_isBetween (k_uI σ 1 (i0) (0) (0)) (a1) (0) (1000)).bind fun v1 => (if v1 = 0 then ((f_X8_fails (k_uI σ 1 (i0) (0) (0)) (i0) (1)).bind fun v31 => some ((v31.1, v31.2))) else ((f_X8_conflicts_l1 200 i0 a1 (k_uI σ 1 (i0) (0) (0)) (0) (0)).bind fun v29 => some ((v29.1, (k_uI σ 1 (i0) (0) (0)))))))
theorem j_X8_conflicts (la : Launch) (hla : la.flags = flags0) (G : k_G) (σ : k_S) (i0 : Nat) (a1 : Int32) (x : (Int32 × k_S)) (hoc : f_X8_conflicts σ i0 a1 = some x) : k_Ct la G yX8_conflicts (k_ws yX8_conflicts cX8_conflicts 5 (Option.some ClassFile.FieldType.int)) { frames := 1, cells := 0, slots := 0, locals := 23 } [k_p 1 (i0), k_i (a1)] σ (.inl (k_mI x.1, x.2)) 0 0 := by
  refine k_body hla (by decide +kernel) (k_wl rfl) (Nat.le_of_ble_eq_true rfl) (fun X h hEn hMe => ?_)
  show k_W X σ 0 0 0 [some (k_p 1 (i0)), some (k_i (a1)), none, none, none] []
  unfold f_X8_conflicts at hoc
  refine r_aload_n h dX8_conflicts_0 rfl ?_
  refine r_iconst (v := 0) h dX8_conflicts_1 (by decide) ?_
  refine r_putI (x := 0) h kp_X8_84 dX8_conflicts_2 rfl rfl (by decide) rfl rfl (k_fit_int _) ?_
  refine r_iload_n h dX8_conflicts_5 rfl ?_
  refine r_iconst (v := 0) h dX8_conflicts_6 (by decide) ?_
  refine r_sipush (v := 1000) h dX8_conflicts_7 (by decide) ?_
  obtain ⟨v1, q2, hoc⟩ := k_ob hoc
  refine r_callS h hMe (rest := []) (as := [k_i (a1), k_i (0), k_i (1000)]) (oc := .inl (k_mI v1, (k_uI σ 1 (i0) (0) (0)))) (j_X8_isBetween la hla G _ (a1) (0) (1000) _ q2) kl_X8_90 dX8_conflicts_10 rfl rfl  ⟨rfl, rfl, Nat.le_of_ble_eq_true rfl, Nat.le_of_ble_eq_true rfl, Nat.le_of_ble_eq_true rfl, Nat.le_of_ble_eq_true rfl, Nat.le_of_ble_eq_true rfl⟩ (fun E q => by cases q) (fun r s q => ?_)
  cases q
  show k_W X _ _ _ _ _ ([k_i (v1)])
  refine r_if_ne (tgt := 22) h dX8_conflicts_13 (by decide) (fun c3 => ?_) (fun c3 => ?_)
  · replace hoc := (if_neg c3).symm.trans hoc
    refine r_iconst (v := 0) h dX8_conflicts_22 (by decide) ?_
    refine r_istore_n (L' := [some (k_p 1 (i0)), some (k_i (a1)), some (k_i (0)), none, none]) h dX8_conflicts_23 (by decide) rfl ?_
    refine r_iconst (v := 0) h dX8_conflicts_24 (by decide) ?_
    refine r_istore_n (L' := [some (k_p 1 (i0)), some (k_i (a1)), some (k_i (0)), some (k_i (0)), none]) h dX8_conflicts_25 (by decide) rfl ?_
    obtain ⟨v29, q30, hoc⟩ := k_ob hoc
    refine j_X8_conflicts_l1 la hla G X σ (k_uI σ 1 (i0) (0) (0)) h hMe i0 a1 200 (0) (0) _ q30 ?_
    refine r_iload_n h dX8_conflicts_130 rfl ?_
    cases hoc
    exact r_ireturn h hEn dX8_conflicts_131 rfl rfl rfl (by decide) (by decide)
  · replace hoc := (if_pos c3).symm.trans hoc
    refine r_aload_n h dX8_conflicts_16 rfl ?_
    refine r_iconst (v := 1) h dX8_conflicts_17 (by decide) ?_
    obtain ⟨v31, q32, hoc⟩ := k_ob hoc
    refine r_callV h hMe (rest := []) (as := [k_i (1)]) (oc := .inl (k_mI v31.1, v31.2)) (j_X8_fails la hla G _ (i0) (1) _ q32) kl_X8_103 dX8_conflicts_18 rfl rfl rfl rfl rfl ⟨rfl, rfl, Nat.le_of_ble_eq_true rfl, Nat.le_of_ble_eq_true rfl, Nat.le_of_ble_eq_true rfl, Nat.le_of_ble_eq_true rfl, Nat.le_of_ble_eq_true rfl⟩ (fun E q => by cases q) (fun r s q => ?_)
    cases q
    show k_W X _ _ _ _ _ ([k_i (v31.1)])
    cases hoc
    exact r_ireturn h hEn dX8_conflicts_21 rfl rfl rfl (by decide) (by decide)
def f_X8_addUser (σ : k_S) (i0 : Nat) (a1 : Int32) : Option (Int32 × k_S) :=
  ((f_X8_isBetween (k_uI σ 1 (i0) (0) (0)) (a1) (1) (9)).bind fun v1 => (if v1 = 0 then ((f_X8_fails (k_uI σ 1 (i0) (0) (0)) (i0) (1)).bind fun v10 => some ((v10.1, v10.2))) else (if k_I σ 1 (i0) (11) = (8 : Int32) then ((f_X8_fails (k_uI σ 1 (i0) (0) (0)) (i0) (2)).bind fun v8 => some ((v8.1, v8.2))) else ((k_P σ 1 (i0) (6)).bind fun j5 => (if 0 ≤ k_I σ 1 (i0) (11) ∧ (k_I σ 1 (i0) (11)).toNatClampNeg < 8 then some ((((k_I σ 1 (i0) (11) + 1) - 1), (k_uI (k_uI (k_uI σ 1 (i0) (0) (0)) 25 (j5) ((k_I σ 1 (i0) (11)).toNatClampNeg) (a1)) 1 (i0) (11) ((k_I σ 1 (i0) (11) + 1))))) else none)))))
theorem j_X8_addUser (la : Launch) (hla : la.flags = flags0) (G : k_G) (σ : k_S) (i0 : Nat) (a1 : Int32) (x : (Int32 × k_S)) (hoc : f_X8_addUser σ i0 a1 = some x) : k_Ct la G yX8_addUser (k_ws yX8_addUser cX8_addUser 2 (Option.some ClassFile.FieldType.int)) { frames := 1, cells := 0, slots := 0, locals := 23 } [k_p 1 (i0), k_i (a1)] σ (.inl (k_mI x.1, x.2)) 0 0 := by
  refine k_body hla (by decide +kernel) (k_wl rfl) (Nat.le_of_ble_eq_true rfl) (fun X h hEn hMe => ?_)
  show k_W X σ 0 0 0 [some (k_p 1 (i0)), some (k_i (a1))] []
  unfold f_X8_addUser at hoc
  refine r_aload_n h dX8_addUser_0 rfl ?_
  refine r_iconst (v := 0) h dX8_addUser_1 (by decide) ?_
  refine r_putI (x := 0) h kp_X8_84 dX8_addUser_2 rfl rfl (by decide) rfl rfl (k_fit_int _) ?_
  refine r_iload_n h dX8_addUser_5 rfl ?_
  refine r_iconst (v := 1) h dX8_addUser_6 (by decide) ?_
  refine r_bipush (v := 9) h dX8_addUser_7 (by decide) ?_
  obtain ⟨v1, q2, hoc⟩ := k_ob hoc
  refine r_callS h hMe (rest := []) (as := [k_i (a1), k_i (1), k_i (9)]) (oc := .inl (k_mI v1, (k_uI σ 1 (i0) (0) (0)))) (j_X8_isBetween la hla G _ (a1) (1) (9) _ q2) kl_X8_90 dX8_addUser_9 rfl rfl  ⟨rfl, rfl, Nat.le_of_ble_eq_true rfl, Nat.le_of_ble_eq_true rfl, Nat.le_of_ble_eq_true rfl, Nat.le_of_ble_eq_true rfl, Nat.le_of_ble_eq_true rfl⟩ (fun E q => by cases q) (fun r s q => ?_)
  cases q
  show k_W X _ _ _ _ _ ([k_i (v1)])
  refine r_if_ne (tgt := 21) h dX8_addUser_12 (by decide) (fun c3 => ?_) (fun c3 => ?_)
  · replace hoc := (if_neg c3).symm.trans hoc
    refine r_aload_n h dX8_addUser_21 rfl ?_
    refine r_getI h kf_X8_94 dX8_addUser_22 rfl rfl (by decide) rfl ?_
    refine r_eqI (k_I_k (by decide)) ?_
    refine r_bipush (v := 8) h dX8_addUser_25 (by decide) ?_
    refine r_icmp_ne (tgt := 36) h dX8_addUser_27 (by decide) (fun c4 => ?_) (fun c4 => ?_)
    · replace hoc := (if_neg c4).symm.trans hoc
      refine r_aload_n h dX8_addUser_36 rfl ?_
      obtain ⟨j5, q6, hoc⟩ := k_ob hoc
      refine r_getR h kf_X8_25 dX8_addUser_37 rfl rfl (by decide) rfl (Eq.trans rfl q6) ?_
      refine r_aload_n h dX8_addUser_40 rfl ?_
      refine r_getI h kf_X8_94 dX8_addUser_41 rfl rfl (by decide) rfl ?_
      refine r_eqI (k_I_k (by decide)) ?_
      refine r_iload_n h dX8_addUser_44 rfl ?_
      obtain ⟨c7, hoc⟩ := k_gd hoc
      refine r_iastore (y := (k_I σ 1 (i0) (11)).toNatClampNeg) (t := 0) (x := a1) h dX8_addUser_45 rfl rfl rfl rfl (k_fit_int _) (k_xx c7.1) c7.2 (by decide) ?_
      refine r_aload_n h dX8_addUser_46 rfl ?_
      refine r_dup h dX8_addUser_47 rfl ?_
      refine r_getI h kf_X8_94 dX8_addUser_48 rfl rfl (by decide) rfl ?_
      refine r_eqI (Eq.trans (k_I_l (by decide)) (k_I_k (by decide))) ?_
      refine r_iconst (v := 1) h dX8_addUser_51 (by decide) ?_
      refine r_iadd h dX8_addUser_52 ?_
      refine r_putI (x := (k_I σ 1 (i0) (11) + 1)) h kp_X8_94 dX8_addUser_53 rfl rfl (by decide) rfl rfl (k_fit_int _) ?_
      refine r_aload_n h dX8_addUser_56 rfl ?_
      refine r_getI h kf_X8_94 dX8_addUser_57 rfl rfl (by decide) rfl ?_
      refine r_eqI k_I_s ?_
      refine r_iconst (v := 1) h dX8_addUser_60 (by decide) ?_
      refine r_isub h dX8_addUser_61 ?_
      cases hoc
      exact r_ireturn h hEn dX8_addUser_62 rfl rfl rfl (by decide) (by decide)
    · replace hoc := (if_pos c4).symm.trans hoc
      refine r_aload_n h dX8_addUser_30 rfl ?_
      refine r_iconst (v := 2) h dX8_addUser_31 (by decide) ?_
      obtain ⟨v8, q9, hoc⟩ := k_ob hoc
      refine r_callV h hMe (rest := []) (as := [k_i (2)]) (oc := .inl (k_mI v8.1, v8.2)) (j_X8_fails la hla G _ (i0) (2) _ q9) kl_X8_103 dX8_addUser_32 rfl rfl rfl rfl rfl ⟨rfl, rfl, Nat.le_of_ble_eq_true rfl, Nat.le_of_ble_eq_true rfl, Nat.le_of_ble_eq_true rfl, Nat.le_of_ble_eq_true rfl, Nat.le_of_ble_eq_true rfl⟩ (fun E q => by cases q) (fun r s q => ?_)
      cases q
      show k_W X _ _ _ _ _ ([k_i (v8.1)])
      cases hoc
      exact r_ireturn h hEn dX8_addUser_35 rfl rfl rfl (by decide) (by decide)
  · replace hoc := (if_pos c3).symm.trans hoc
    refine r_aload_n h dX8_addUser_15 rfl ?_
    refine r_iconst (v := 1) h dX8_addUser_16 (by decide) ?_
    obtain ⟨v10, q11, hoc⟩ := k_ob hoc
    refine r_callV h hMe (rest := []) (as := [k_i (1)]) (oc := .inl (k_mI v10.1, v10.2)) (j_X8_fails la hla G _ (i0) (1) _ q11) kl_X8_103 dX8_addUser_17 rfl rfl rfl rfl rfl ⟨rfl, rfl, Nat.le_of_ble_eq_true rfl, Nat.le_of_ble_eq_true rfl, Nat.le_of_ble_eq_true rfl, Nat.le_of_ble_eq_true rfl, Nat.le_of_ble_eq_true rfl⟩ (fun E q => by cases q) (fun r s q => ?_)
    cases q
    show k_W X _ _ _ _ _ ([k_i (v10.1)])
    cases hoc
    exact r_ireturn h hEn dX8_addUser_20 rfl rfl rfl (by decide) (by decide)
def f_X8_setWeight (σ : k_S) (i0 : Nat) (a1 : Int32) (a2 : Int32) : Option (Int32 × k_S) :=
  ((f_X8_isUser (k_uI σ 1 (i0) (0) (0)) (i0) (a1)).bind fun v1 => (if v1 = 0 then ((f_X8_fails (k_uI σ 1 (i0) (0) (0)) (i0) (1)).bind fun v13 => some ((v13.1, v13.2))) else ((f_X8_isBetween (k_uI σ 1 (i0) (0) (0)) (a2) (1) (9)).bind fun v4 => (if v4 = 0 then ((f_X8_fails (k_uI σ 1 (i0) (0) (0)) (i0) (2)).bind fun v11 => some ((v11.1, v11.2))) else ((k_P σ 1 (i0) (6)).bind fun j7 => (if 0 ≤ a1 ∧ (a1).toNatClampNeg < 8 then (if 0 ≤ a1 ∧ (a1).toNatClampNeg < 8 then some ((k_I σ 25 (j7) ((a1).toNatClampNeg), (k_uI (k_uI σ 1 (i0) (0) (0)) 25 (j7) ((a1).toNatClampNeg) (a2)))) else none) else none))))))
theorem j_X8_setWeight (la : Launch) (hla : la.flags = flags0) (G : k_G) (σ : k_S) (i0 : Nat) (a1 : Int32) (a2 : Int32) (x : (Int32 × k_S)) (hoc : f_X8_setWeight σ i0 a1 a2 = some x) : k_Ct la G yX8_setWeight (k_ws yX8_setWeight cX8_setWeight 4 (Option.some ClassFile.FieldType.int)) { frames := 2, cells := 0, slots := 0, locals := 44 } [k_p 1 (i0), k_i (a1), k_i (a2)] σ (.inl (k_mI x.1, x.2)) 0 0 := by
  refine k_body hla (by decide +kernel) (k_wl rfl) (Nat.le_of_ble_eq_true rfl) (fun X h hEn hMe => ?_)
  show k_W X σ 0 0 0 [some (k_p 1 (i0)), some (k_i (a1)), some (k_i (a2)), none] []
  unfold f_X8_setWeight at hoc
  refine r_aload_n h dX8_setWeight_0 rfl ?_
  refine r_iconst (v := 0) h dX8_setWeight_1 (by decide) ?_
  refine r_putI (x := 0) h kp_X8_84 dX8_setWeight_2 rfl rfl (by decide) rfl rfl (k_fit_int _) ?_
  refine r_aload_n h dX8_setWeight_5 rfl ?_
  refine r_iload_n h dX8_setWeight_6 rfl ?_
  obtain ⟨v1, q2, hoc⟩ := k_ob hoc
  refine r_callV h hMe (rest := []) (as := [k_i (a1)]) (oc := .inl (k_mI v1, (k_uI σ 1 (i0) (0) (0)))) (j_X8_isUser la hla G _ (i0) (a1) _ q2) kl_X8_130 dX8_setWeight_7 rfl rfl rfl rfl rfl ⟨rfl, rfl, Nat.le_of_ble_eq_true rfl, Nat.le_of_ble_eq_true rfl, Nat.le_of_ble_eq_true rfl, Nat.le_of_ble_eq_true rfl, Nat.le_of_ble_eq_true rfl⟩ (fun E q => by cases q) (fun r s q => ?_)
  cases q
  show k_W X _ _ _ _ _ ([k_i (v1)])
  refine r_if_ne (tgt := 19) h dX8_setWeight_10 (by decide) (fun c3 => ?_) (fun c3 => ?_)
  · replace hoc := (if_neg c3).symm.trans hoc
    refine r_iload_n h dX8_setWeight_19 rfl ?_
    refine r_iconst (v := 1) h dX8_setWeight_20 (by decide) ?_
    refine r_bipush (v := 9) h dX8_setWeight_21 (by decide) ?_
    obtain ⟨v4, q5, hoc⟩ := k_ob hoc
    refine r_callS h hMe (rest := []) (as := [k_i (a2), k_i (1), k_i (9)]) (oc := .inl (k_mI v4, (k_uI σ 1 (i0) (0) (0)))) (j_X8_isBetween la hla G _ (a2) (1) (9) _ q5) kl_X8_90 dX8_setWeight_23 rfl rfl  ⟨rfl, rfl, Nat.le_of_ble_eq_true rfl, Nat.le_of_ble_eq_true rfl, Nat.le_of_ble_eq_true rfl, Nat.le_of_ble_eq_true rfl, Nat.le_of_ble_eq_true rfl⟩ (fun E q => by cases q) (fun r s q => ?_)
    cases q
    show k_W X _ _ _ _ _ ([k_i (v4)])
    refine r_if_ne (tgt := 35) h dX8_setWeight_26 (by decide) (fun c6 => ?_) (fun c6 => ?_)
    · replace hoc := (if_neg c6).symm.trans hoc
      refine r_aload_n h dX8_setWeight_35 rfl ?_
      obtain ⟨j7, q8, hoc⟩ := k_ob hoc
      refine r_getR h kf_X8_25 dX8_setWeight_36 rfl rfl (by decide) rfl (Eq.trans rfl q8) ?_
      refine r_iload_n h dX8_setWeight_39 rfl ?_
      obtain ⟨c9, hoc⟩ := k_gd hoc
      refine r_iaload (y := (a1).toNatClampNeg) (t := 0) h dX8_setWeight_40 rfl rfl rfl (k_xx c9.1) c9.2 (by decide) ?_
      refine r_eqI (k_I_l (by decide)) ?_
      refine r_istore_n (L' := [some (k_p 1 (i0)), some (k_i (a1)), some (k_i (a2)), some (k_i (k_I σ 25 (j7) ((a1).toNatClampNeg)))]) h dX8_setWeight_41 (by decide) rfl ?_
      refine r_aload_n h dX8_setWeight_42 rfl ?_
      refine r_getR h kf_X8_25 dX8_setWeight_43 rfl rfl (by decide) rfl (Eq.trans rfl q8) ?_
      refine r_iload_n h dX8_setWeight_46 rfl ?_
      refine r_iload_n h dX8_setWeight_47 rfl ?_
      obtain ⟨c10, hoc⟩ := k_gd hoc
      refine r_iastore (y := (a1).toNatClampNeg) (t := 0) (x := a2) h dX8_setWeight_48 rfl rfl rfl rfl (k_fit_int _) (k_xx c10.1) c10.2 (by decide) ?_
      refine r_iload_n h dX8_setWeight_49 rfl ?_
      cases hoc
      exact r_ireturn h hEn dX8_setWeight_50 rfl rfl rfl (by decide) (by decide)
    · replace hoc := (if_pos c6).symm.trans hoc
      refine r_aload_n h dX8_setWeight_29 rfl ?_
      refine r_iconst (v := 2) h dX8_setWeight_30 (by decide) ?_
      obtain ⟨v11, q12, hoc⟩ := k_ob hoc
      refine r_callV h hMe (rest := []) (as := [k_i (2)]) (oc := .inl (k_mI v11.1, v11.2)) (j_X8_fails la hla G _ (i0) (2) _ q12) kl_X8_103 dX8_setWeight_31 rfl rfl rfl rfl rfl ⟨rfl, rfl, Nat.le_of_ble_eq_true rfl, Nat.le_of_ble_eq_true rfl, Nat.le_of_ble_eq_true rfl, Nat.le_of_ble_eq_true rfl, Nat.le_of_ble_eq_true rfl⟩ (fun E q => by cases q) (fun r s q => ?_)
      cases q
      show k_W X _ _ _ _ _ ([k_i (v11.1)])
      cases hoc
      exact r_ireturn h hEn dX8_setWeight_34 rfl rfl rfl (by decide) (by decide)
  · replace hoc := (if_pos c3).symm.trans hoc
    refine r_aload_n h dX8_setWeight_13 rfl ?_
    refine r_iconst (v := 1) h dX8_setWeight_14 (by decide) ?_
    obtain ⟨v13, q14, hoc⟩ := k_ob hoc
    refine r_callV h hMe (rest := []) (as := [k_i (1)]) (oc := .inl (k_mI v13.1, v13.2)) (j_X8_fails la hla G _ (i0) (1) _ q14) kl_X8_103 dX8_setWeight_15 rfl rfl rfl rfl rfl ⟨rfl, rfl, Nat.le_of_ble_eq_true rfl, Nat.le_of_ble_eq_true rfl, Nat.le_of_ble_eq_true rfl, Nat.le_of_ble_eq_true rfl, Nat.le_of_ble_eq_true rfl⟩ (fun E q => by cases q) (fun r s q => ?_)
    cases q
    show k_W X _ _ _ _ _ ([k_i (v13.1)])
    cases hoc
    exact r_ireturn h hEn dX8_setWeight_18 rfl rfl rfl (by decide) (by decide)
