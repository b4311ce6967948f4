/-! ===== walks 8 (written by wip/whole/gen_walk.py, emit_walk.py) ===== -/
def f_X7_reversedShare_l1 (t : Nat) (i0 : Nat) (σ : k_S) (x1 : Int32) (x2 : Int32) : Option (Int32 × Int32) := match t with
  | 0 => none
  | t + 1 => (if k_P σ 0 (i0) (3) = some 0 then (if (nI (k_Z σ 15)) ≤ x2 then some ((x1, x2)) else (if 0 ≤ x2 ∧ (x2 : Int32).toNatClampNeg < k_Z σ 15 ∧ k_Z σ 15 ≤ 200 then ((k_P σ 15 (0) ((x2 : Int32).toNatClampNeg)).bind fun j5 => ((f_X2_hasNewDecision σ (j5)).bind fun v7 => (if v7 = 0 then f_X7_reversedShare_l1 t i0 σ (x1) ((x2 + 1)) else f_X7_reversedShare_l1 t i0 σ ((x1 + 1)) ((x2 + 1))))) else none)) else none)
theorem j_X7_reversedShare_l1 (la : Launch) (hla : la.flags = flags0) (G : k_G) (X : k_X) (σ0 σ : k_S) (h : k_Ok X RX7 cX7_reversedShare 3) (hMe : k_Me X la G σ0 { frames := 6, cells := 1, slots := 6, locals := 93 } "reversedShare") (i0 : Nat) : ∀ (t : Nat) (x1 : Int32) (x2 : Int32) (e : (Int32 × Int32)), f_X7_reversedShare_l1 t i0 σ x1 x2 = some e → k_W X σ 0 0 41 [some (k_p 0 (i0)), some (k_i (e.1)), some (k_i (e.2))] [] → k_W X σ 0 0 4 [some (k_p 0 (i0)), some (k_i (x1)), some (k_i (x2))] [] := by
  intro t
  induction t with
  | zero =>
    intro x1 x2 e hoc kk
    cases hoc
  | succ t ih =>
    intro x1 x2 e hoc kk
    rw [f_X7_reversedShare_l1] at hoc
    refine r_iload_n h dX7_reversedShare_4 rfl ?_
    refine r_aload_n h dX7_reversedShare_5 rfl ?_
    obtain ⟨q2, hoc⟩ := k_gd hoc
    refine r_getR h kf_X7_22 dX7_reversedShare_6 rfl rfl (by decide) rfl (Eq.trans rfl q2) ?_
    refine r_callL h hMe (rest := [k_i (x2)]) (as := []) (j_size la hla G _ 15 rfl) kl_X7_52 dX7_reversedShare_9 rfl rfl rfl rfl ⟨rfl, rfl, Nat.le_of_ble_eq_true rfl, Nat.le_of_ble_eq_true rfl, Nat.le_of_ble_eq_true rfl, Nat.le_of_ble_eq_true rfl, Nat.le_of_ble_eq_true rfl⟩ (fun E q => by cases q) (fun r s q => ?_)
    cases q
    refine r_icmp_ge (tgt := 41) h dX7_reversedShare_12 (by decide) (fun c3 => ?_) (fun c3 => ?_)
    · replace hoc := (if_pos c3).symm.trans hoc
      cases hoc
      exact kk
    · replace hoc := (if_neg c3).symm.trans hoc
      refine r_aload_n h dX7_reversedShare_15 rfl ?_
      refine r_getR h kf_X7_22 dX7_reversedShare_16 rfl rfl (by decide) rfl (Eq.trans rfl q2) ?_
      refine r_iload_n h dX7_reversedShare_19 rfl ?_
      obtain ⟨c4, hoc⟩ := k_gd hoc
      obtain ⟨j5, q6, hoc⟩ := k_ob hoc
      refine r_lget h hla hMe (rest := []) c4 (Eq.trans rfl q6) rfl kl_X7_117 dX7_reversedShare_20 ⟨Nat.le_of_ble_eq_true rfl, Nat.le_of_ble_eq_true rfl, Nat.le_of_ble_eq_true rfl, Nat.le_of_ble_eq_true rfl, Nat.le_of_ble_eq_true rfl⟩ ?_
      refine r_cast1 h dX7_reversedShare_23 wd_204 rfl rfl rfl ?_
      obtain ⟨v7, q8, hoc⟩ := k_ob hoc
      refine r_callV h hMe (rest := []) (as := []) (oc := .inl (k_mI v7, σ)) (j_X2_hasNewDecision la hla G _ (j5) _ q8) kl_X7_301 dX7_reversedShare_26 rfl rfl rfl rfl rfl ⟨rfl, rfl, Nat.le_of_ble_eq_true rfl, Nat.le_of_ble_eq_true rfl, Nat.le_of_ble_eq_true rfl, Nat.le_of_ble_eq_true rfl, Nat.le_of_ble_eq_true rfl⟩ (fun E q => by cases q) (fun r s q => ?_)
      cases q
      show k_W X _ _ _ _ _ ([k_i (v7)])
      refine r_if_eq (tgt := 35) h dX7_reversedShare_29 (by decide) (fun c9 => ?_) (fun c9 => ?_)
      · replace hoc := (if_pos c9).symm.trans hoc
        refine r_iinc (v := (x2 + 1)) (L' := [some (k_p 0 (i0)), some (k_i (x1)), some (k_i ((x2 + 1)))]) h dX7_reversedShare_35 rfl rfl (by decide) rfl ?_
        refine r_goto (tgt := 4) h dX7_reversedShare_38 (by decide) ?_
        exact r_forget (L' := [some (k_p 0 (i0)), some (k_i (x1)), some (k_i ((x2 + 1)))]) (k_le_ok ⟨rfl, ⟨rfl, ⟨rfl, trivial⟩⟩⟩) (ih (x1) ((x2 + 1)) _ hoc kk)
      · replace hoc := (if_neg c9).symm.trans hoc
        refine r_iinc (v := (x1 + 1)) (L' := [some (k_p 0 (i0)), some (k_i ((x1 + 1))), some (k_i (x2))]) h dX7_reversedShare_32 rfl rfl (by decide) rfl ?_
        refine r_iinc (v := (x2 + 1)) (L' := [some (k_p 0 (i0)), some (k_i ((x1 + 1))), some (k_i ((x2 + 1)))]) h dX7_reversedShare_35 rfl rfl (by decide) rfl ?_
        refine r_goto (tgt := 4) h dX7_reversedShare_38 (by decide) ?_
        exact r_forget (L' := [some (k_p 0 (i0)), some (k_i ((x1 + 1))), some (k_i ((x2 + 1)))]) (k_le_ok ⟨rfl, ⟨rfl, ⟨rfl, trivial⟩⟩⟩) (ih ((x1 + 1)) ((x2 + 1)) _ hoc kk)
def f_X7_reversedShare (σ : k_S) (i0 : Nat) : Option (UInt32 ⊕ String) :=
  ((f_X7_reversedShare_l1 200 i0 σ (0) (0)).bind fun v10 => (if v10.1 = 0 then some (.inr "java/lang/ArithmeticException") else ((f_X7_reversedReports σ (i0)).bind fun v13 => (if (FP.fdiv (FP.i2f (v13)) (FP.i2f (v10.1))) &&& 0x7fffffff ≤ 0x7f800000 then some (.inl ((FP.fdiv (FP.i2f (v13)) (FP.i2f (v10.1))))) else none))))
theorem j_X7_reversedShare (la : Launch) (hla : la.flags = flags0) (G : k_G) (σ : k_S) (i0 : Nat) (x : (UInt32 ⊕ String)) (hoc : f_X7_reversedShare σ i0 = some x) : k_Ct la G yX7_reversedShare (k_ws yX7_reversedShare cX7_reversedShare 3 (Option.some ClassFile.FieldType.float)) { frames := 6, cells := 1, slots := 6, locals := 93 } [k_p 0 (i0)] σ (k_tc k_mF σ x) 1 6 := by
  refine k_body hla (by decide +kernel) (k_wl rfl) (Nat.le_of_ble_eq_true rfl) (fun X h hEn hMe => ?_)
  show k_W X σ 0 0 0 [some (k_p 0 (i0)), none, none] []
  unfold f_X7_reversedShare at hoc
  refine r_iconst (v := 0) h dX7_reversedShare_0 (by decide) ?_
  refine r_istore_n (L' := [some (k_p 0 (i0)), some (k_i (0)), none]) h dX7_reversedShare_1 (by decide) rfl ?_
  refine r_iconst (v := 0) h dX7_reversedShare_2 (by decide) ?_
  refine r_istore_n (L' := [some (k_p 0 (i0)), some (k_i (0)), some (k_i (0))]) h dX7_reversedShare_3 (by decide) rfl ?_
  obtain ⟨v10, q11, hoc⟩ := k_ob hoc
  refine j_X7_reversedShare_l1 la hla G X σ σ h hMe i0 200 (0) (0) _ q11 ?_
  refine r_iload_n h dX7_reversedShare_41 rfl ?_
  refine r_if_ne (tgt := 56) h dX7_reversedShare_42 (by decide) (fun c12 => ?_) (fun c12 => ?_)
  · replace hoc := (if_neg c12).symm.trans hoc
    refine r_aload_n h dX7_reversedShare_56 rfl ?_
    obtain ⟨v13, q14, hoc⟩ := k_ob hoc
    refine r_callV h hMe (rest := []) (as := []) (oc := .inl (k_mI v13, σ)) (j_X7_reversedReports la hla G _ (i0) _ q14) kl_X7_288 dX7_reversedShare_57 rfl rfl rfl rfl rfl ⟨rfl, rfl, Nat.le_of_ble_eq_true rfl, Nat.le_of_ble_eq_true rfl, Nat.le_of_ble_eq_true rfl, Nat.le_of_ble_eq_true rfl, Nat.le_of_ble_eq_true rfl⟩ (fun E q => by cases q) (fun r s q => ?_)
    cases q
    show k_W X _ _ _ _ _ ([k_i (v13)])
    refine r_i2f h dX7_reversedShare_60 ?_
    refine r_iload_n h dX7_reversedShare_61 rfl ?_
    refine r_i2f h dX7_reversedShare_62 ?_
    obtain ⟨c15, hoc⟩ := k_gd hoc
    refine r_fdiv h dX7_reversedShare_63 c15 ?_
    cases hoc
    exact r_freturn h hEn dX7_reversedShare_64 rfl rfl (by decide) (by decide)
  · replace hoc := (if_pos c12).symm.trans hoc
    cases hoc
    exact r_throwW h hEn hMe kt_X7_293_304 dX7_reversedShare_45 dX7_reversedShare_48 dX7_reversedShare_49 dX7_reversedShare_52 dX7_reversedShare_55 rfl (by decide) (by decide) (by decide)
def f_X7_sanctionDays_l1 (t : Nat) (i0 : Nat) (σ : k_S) (x1 : Int64) (x3 : Int32) : Option (Int64 × Int32) := match t with
  | 0 => none
  | t + 1 => (if k_P σ 0 (i0) (4) = some 0 then (if (nI (k_Z σ 16)) ≤ x3 then some ((x1, x3)) else (if 0 ≤ x3 ∧ (x3 : Int32).toNatClampNeg < k_Z σ 16 ∧ k_Z σ 16 ≤ 200 then ((k_P σ 16 (0) ((x3 : Int32).toNatClampNeg)).bind fun j5 => ((f_X4_daysBefore σ (j5) (k_I σ 0 (i0) (8))).bind fun v7 => f_X7_sanctionDays_l1 t i0 σ ((x1 + (v7 : Int32).toInt64)) ((x3 + 1)))) else none)) else none)
theorem j_X7_sanctionDays_l1 (la : Launch) (hla : la.flags = flags0) (G : k_G) (X : k_X) (σ0 σ : k_S) (h : k_Ok X RX7 cX7_sanctionDays 4) (hMe : k_Me X la G σ0 { frames := 3, cells := 0, slots := 0, locals := 71 } "sanctionDays") (i0 : Nat) : ∀ (t : Nat) (x1 : Int64) (x3 : Int32) (e : (Int64 × Int32)), f_X7_sanctionDays_l1 t i0 σ x1 x3 = some e → k_W X σ 0 0 43 [some (k_p 0 (i0)), some (k_l (e.1)), none, some (k_i (e.2))] [] → k_W X σ 0 0 4 [some (k_p 0 (i0)), some (k_l (x1)), none, some (k_i (x3))] [] := by
  intro t
  induction t with
  | zero =>
    intro x1 x3 e hoc kk
    cases hoc
  | succ t ih =>
    intro x1 x3 e hoc kk
    rw [f_X7_sanctionDays_l1] at hoc
    refine r_iload_n h dX7_sanctionDays_4 rfl ?_
    refine r_aload_n h dX7_sanctionDays_5 rfl ?_
    obtain ⟨q2, hoc⟩ := k_gd hoc
    refine r_getR h kf_X7_25 dX7_sanctionDays_6 rfl rfl (by decide) rfl (Eq.trans rfl q2) ?_
    refine r_callL h hMe (rest := [k_i (x3)]) (as := []) (j_size la hla G _ 16 rfl) kl_X7_52 dX7_sanctionDays_9 rfl rfl rfl rfl ⟨rfl, rfl, Nat.le_of_ble_eq_true rfl, Nat.le_of_ble_eq_true rfl, Nat.le_of_ble_eq_true rfl, Nat.le_of_ble_eq_true rfl, Nat.le_of_ble_eq_true rfl⟩ (fun E q => by cases q) (fun r s q => ?_)
    cases q
    refine r_icmp_ge (tgt := 43) h dX7_sanctionDays_12 (by decide) (fun c3 => ?_) (fun c3 => ?_)
    · replace hoc := (if_pos c3).symm.trans hoc
      cases hoc
      exact kk
    · replace hoc := (if_neg c3).symm.trans hoc
      refine r_lload_n h dX7_sanctionDays_15 rfl ?_
      refine r_aload_n h dX7_sanctionDays_16 rfl ?_
      refine r_getR h kf_X7_25 dX7_sanctionDays_17 rfl rfl (by decide) rfl (Eq.trans rfl q2) ?_
      refine r_iload_n h dX7_sanctionDays_20 rfl ?_
      obtain ⟨c4, hoc⟩ := k_gd hoc
      obtain ⟨j5, q6, hoc⟩ := k_ob hoc
      refine r_lget h hla hMe (rest := [k_l (x1)]) c4 (Eq.trans rfl q6) rfl kl_X7_117 dX7_sanctionDays_21 ⟨Nat.le_of_ble_eq_true rfl, Nat.le_of_ble_eq_true rfl, Nat.le_of_ble_eq_true rfl, Nat.le_of_ble_eq_true rfl, Nat.le_of_ble_eq_true rfl⟩ ?_
      refine r_cast1 h dX7_sanctionDays_24 wd_149 rfl rfl rfl ?_
      refine r_aload_n h dX7_sanctionDays_27 rfl ?_
      refine r_getI h kf_X7_41 dX7_sanctionDays_28 rfl rfl (by decide) rfl ?_
      obtain ⟨v7, q8, hoc⟩ := k_ob hoc
      refine r_callV h hMe (rest := [k_l (x1)]) (as := [k_i (k_I σ 0 (i0) (8))]) (oc := .inl (k_mI v7, σ)) (j_X4_daysBefore la hla G _ (j5) (k_I σ 0 (i0) (8)) _ q8) kl_X7_306 dX7_sanctionDays_31 rfl rfl rfl rfl rfl ⟨rfl, rfl, Nat.le_of_ble_eq_true rfl, Nat.le_of_ble_eq_true rfl, Nat.le_of_ble_eq_true rfl, Nat.le_of_ble_eq_true rfl, Nat.le_of_ble_eq_true rfl⟩ (fun E q => by cases q) (fun r s q => ?_)
      cases q
      show k_W X _ _ _ _ _ ([k_i (v7), k_l (x1)])
      refine r_i2l h dX7_sanctionDays_34 ?_
      refine r_ladd h dX7_sanctionDays_35 ?_
      refine r_lstore_n (L' := [some (k_p 0 (i0)), some (k_l ((x1 + (v7 : Int32).toInt64))), none, some (k_i (x3))]) h dX7_sanctionDays_36 (by decide) rfl ?_
      refine r_iinc (v := (x3 + 1)) (L' := [some (k_p 0 (i0)), some (k_l ((x1 + (v7 : Int32).toInt64))), none, some (k_i ((x3 + 1)))]) h dX7_sanctionDays_37 rfl rfl (by decide) rfl ?_
      refine r_goto (tgt := 4) h dX7_sanctionDays_40 (by decide) ?_
      exact r_forget (L' := [some (k_p 0 (i0)), some (k_l ((x1 + (v7 : Int32).toInt64))), none, some (k_i ((x3 + 1)))]) (k_le_ok ⟨rfl, ⟨rfl, ⟨rfl, trivial⟩⟩⟩) (ih ((x1 + (v7 : Int32).toInt64)) ((x3 + 1)) _ hoc kk)
def f_X7_sanctionDays (σ : k_S) (i0 : Nat) : Option Int64 :=
  ((f_X7_sanctionDays_l1 200 i0 σ (0) (0)).bind fun v9 => some (v9.1))
theorem j_X7_sanctionDays (la : Launch) (hla : la.flags = flags0) (G : k_G) (σ : k_S) (i0 : Nat) (x : Int64) (hoc : f_X7_sanctionDays σ i0 = some x) : k_Ct la G yX7_sanctionDays (k_ws yX7_sanctionDays cX7_sanctionDays 4 (Option.some ClassFile.FieldType.long)) { frames := 3, cells := 0, slots := 0, locals := 71 } [k_p 0 (i0)] σ (.inl (k_mJ x, σ)) 0 0 := by
  refine k_body hla (by decide +kernel) (k_wl rfl) (Nat.le_of_ble_eq_true rfl) (fun X h hEn hMe => ?_)
  show k_W X σ 0 0 0 [some (k_p 0 (i0)), none, none, none] []
  unfold f_X7_sanctionDays at hoc
  refine r_lconst (v := 0) h dX7_sanctionDays_0 (by decide) ?_
  refine r_lstore_n (L' := [some (k_p 0 (i0)), some (k_l (0)), none, none]) h dX7_sanctionDays_1 (by decide) rfl ?_
  refine r_iconst (v := 0) h dX7_sanctionDays_2 (by decide) ?_
  refine r_istore_n (L' := [some (k_p 0 (i0)), some (k_l (0)), none, some (k_i (0))]) h dX7_sanctionDays_3 (by decide) rfl ?_
  obtain ⟨v9, q10, hoc⟩ := k_ob hoc
  refine j_X7_sanctionDays_l1 la hla G X σ σ h hMe i0 200 (0) (0) _ q10 ?_
  refine r_lload_n h dX7_sanctionDays_43 rfl ?_
  cases hoc
  exact r_lreturn h hEn dX7_sanctionDays_44 rfl rfl (by decide) (by decide)
def f_X7_isConsistent_l1 (t : Nat) (i0 : Nat) (σ : k_S) (x1 : Int32) : Option ((Int32) ⊕ (Int32 × k_S)) := match t with
  | 0 => none
  | t + 1 => (if k_P σ 0 (i0) (3) = some 0 then (if (nI (k_Z σ 15)) ≤ x1 then some (.inl (x1)) else (if 0 ≤ x1 ∧ (x1 : Int32).toNatClampNeg < k_Z σ 15 ∧ k_Z σ 15 ≤ 200 then ((k_P σ 15 (0) ((x1 : Int32).toNatClampNeg)).bind fun j7 => (if k_I σ 5 (j7) (7) = (100 : Int32) then ((k_P σ 0 (i0) (6)).bind fun j31 => ((f_X5_outcomeOf σ (j31) (x1)).bind fun v33 => (if v33 = (45 : Int32) then (if (1 : Int32) = (0 : Int32) then ((f_X5_outcomeOf σ (j31) (x1)).bind fun v37 => ((k_P σ 0 (i0) (7)).bind fun j39 => ((f_X5_outcomeOf σ (j39) (x1)).bind fun v41 => (if v37 = v41 then f_X7_isConsistent_l1 t i0 σ ((x1 + 1)) else some (.inr ((0, σ))))))) else some (.inr ((0, σ)))) else (if (1 : Int32) = (1 : Int32) then ((f_X5_outcomeOf σ (j31) (x1)).bind fun v45 => ((k_P σ 0 (i0) (7)).bind fun j47 => ((f_X5_outcomeOf σ (j47) (x1)).bind fun v49 => (if v45 = v49 then f_X7_isConsistent_l1 t i0 σ ((x1 + 1)) else some (.inr ((0, σ))))))) else some (.inr ((0, σ))))))) else ((k_P σ 0 (i0) (6)).bind fun j10 => ((f_X5_outcomeOf σ (j10) (x1)).bind fun v12 => (if v12 = (45 : Int32) then (if (0 : Int32) = (0 : Int32) then ((f_X5_outcomeOf σ (j10) (x1)).bind fun v16 => ((k_P σ 0 (i0) (7)).bind fun j18 => ((f_X5_outcomeOf σ (j18) (x1)).bind fun v20 => (if v16 = v20 then f_X7_isConsistent_l1 t i0 σ ((x1 + 1)) else some (.inr ((0, σ))))))) else some (.inr ((0, σ)))) else (if (0 : Int32) = (1 : Int32) then ((f_X5_outcomeOf σ (j10) (x1)).bind fun v24 => ((k_P σ 0 (i0) (7)).bind fun j26 => ((f_X5_outcomeOf σ (j26) (x1)).bind fun v28 => (if v24 = v28 then f_X7_isConsistent_l1 t i0 σ ((x1 + 1)) else some (.inr ((0, σ))))))) else some (.inr ((0, σ))))))))) else none)) else none)
theorem j_X7_isConsistent_l1 (la : Launch) (hla : la.flags = flags0) (G : k_G) (X : k_X) (σ0 σ : k_S) (h : k_Ok X RX7 cX7_isConsistent 4) (hMe : k_Me X la G σ0 { frames := 6, cells := 0, slots := 0, locals := 148 } "isConsistent") (oc : k_Oc) (hEn : k_En X (Option.some ClassFile.FieldType.boolean) oc 0 0 []) (i0 : Nat) : ∀ (t : Nat) (x1 : Int32) (r : ((Int32) ⊕ (Int32 × k_S))), f_X7_isConsistent_l1 t i0 σ x1 = some r → (∀ e, r = .inl e → k_W X σ 0 0 93 [some (k_p 0 (i0)), some (k_i (e)), none, none] []) → (∀ p, r = .inr p → oc = (.inl (k_mI p.1, p.2))) → k_W X σ 0 0 6 [some (k_p 0 (i0)), some (k_i (x1)), none, none] [] := by
  intro t
  induction t with
  | zero =>
    intro x1 r hoc kk hret
    cases hoc
  | succ t ih =>
    intro x1 r hoc kk hret
    rw [f_X7_isConsistent_l1] at hoc
    refine r_iload_n h dX7_isConsistent_6 rfl ?_
    refine r_aload_n h dX7_isConsistent_7 rfl ?_
    obtain ⟨q4, hoc⟩ := k_gd hoc
    refine r_getR h kf_X7_22 dX7_isConsistent_8 rfl rfl (by decide) rfl (Eq.trans rfl q4) ?_
    refine r_callL h hMe (rest := [k_i (x1)]) (as := []) (j_size la hla G _ 15 rfl) kl_X7_52 dX7_isConsistent_11 rfl rfl rfl rfl ⟨rfl, rfl, Nat.le_of_ble_eq_true rfl, Nat.le_of_ble_eq_true rfl, Nat.le_of_ble_eq_true rfl, Nat.le_of_ble_eq_true rfl, Nat.le_of_ble_eq_true rfl⟩ (fun E q => by cases q) (fun r s q => ?_)
    cases q
    refine r_icmp_ge (tgt := 93) h dX7_isConsistent_14 (by decide) (fun c5 => ?_) (fun c5 => ?_)
    · replace hoc := (if_pos c5).symm.trans hoc
      cases hoc
      exact kk _ rfl
    · replace hoc := (if_neg c5).symm.trans hoc
      refine r_aload_n h dX7_isConsistent_17 rfl ?_
      refine r_getR h kf_X7_22 dX7_isConsistent_18 rfl rfl (by decide) rfl (Eq.trans rfl q4) ?_
      refine r_iload_n h dX7_isConsistent_21 rfl ?_
      obtain ⟨c6, hoc⟩ := k_gd hoc
      obtain ⟨j7, q8, hoc⟩ := k_ob hoc
      refine r_lget h hla hMe (rest := []) c6 (Eq.trans rfl q8) rfl kl_X7_117 dX7_isConsistent_22 ⟨Nat.le_of_ble_eq_true rfl, Nat.le_of_ble_eq_true rfl, Nat.le_of_ble_eq_true rfl, Nat.le_of_ble_eq_true rfl, Nat.le_of_ble_eq_true rfl⟩ ?_
      refine r_cast1 h dX7_isConsistent_25 wd_204 rfl rfl rfl ?_
      refine r_getI h kf_X7_185 dX7_isConsistent_28 rfl rfl (by decide) rfl ?_
      refine r_bipush (v := 100) h dX7_isConsistent_31 (by decide) ?_
      refine r_icmp_ne (tgt := 40) h dX7_isConsistent_33 (by decide) (fun c9 => ?_) (fun c9 => ?_)
      · replace hoc := (if_neg c9).symm.trans hoc
        refine r_iconst (v := 0) h dX7_isConsistent_40 (by decide) ?_
        refine r_istore_n (L' := [some (k_p 0 (i0)), some (k_i (x1)), some (k_i (0)), none]) h dX7_isConsistent_41 (by decide) rfl ?_
        refine r_aload_n h dX7_isConsistent_42 rfl ?_
        obtain ⟨j10, q11, hoc⟩ := k_ob hoc
        refine r_getR h kf_X7_34 dX7_isConsistent_43 rfl rfl (by decide) rfl (Eq.trans rfl q11) ?_
        refine r_iload_n h dX7_isConsistent_46 rfl ?_
        obtain ⟨v12, q13, hoc⟩ := k_ob hoc
        refine r_callV h hMe (rest := []) (as := [k_i (x1)]) (oc := .inl (k_mI v12, σ)) (j_X5_outcomeOf la hla G _ (j10) (x1) _ q13) kl_X7_230 dX7_isConsistent_47 rfl rfl rfl rfl rfl ⟨rfl, rfl, Nat.le_of_ble_eq_true rfl, Nat.le_of_ble_eq_true rfl, Nat.le_of_ble_eq_true rfl, Nat.le_of_ble_eq_true rfl, Nat.le_of_ble_eq_true rfl⟩ (fun E q => by cases q) (fun r s q => ?_)
        cases q
        show k_W X _ _ _ _ _ ([k_i (v12)])
        refine r_bipush (v := 45) h dX7_isConsistent_50 (by decide) ?_
        refine r_icmp_eq (tgt := 59) h dX7_isConsistent_52 (by decide) (fun c14 => ?_) (fun c14 => ?_)
        · replace hoc := (if_pos c14).symm.trans hoc
          refine r_iconst (v := 0) h dX7_isConsistent_59 (by decide) ?_
          refine r_istore_n (L' := [some (k_p 0 (i0)), some (k_i (x1)), some (k_i (0)), some (k_i (0))]) h dX7_isConsistent_60 (by decide) rfl ?_
          refine r_iload_n h dX7_isConsistent_61 rfl ?_
          refine r_iload_n h dX7_isConsistent_62 rfl ?_
          refine r_icmp_ne (tgt := 85) h dX7_isConsistent_63 (by decide) (fun c15 => ?_) (fun c15 => ?_)
          · replace hoc := (if_neg c15).symm.trans hoc
            refine r_iconst (v := 0) h dX7_isConsistent_85 (by decide) ?_
            cases hoc
            exact r_ireturn h hEn dX7_isConsistent_86 rfl (by decide) (hret _ rfl) (by decide) (by decide)
          · replace hoc := (if_pos c15).symm.trans hoc
            refine r_aload_n h dX7_isConsistent_66 rfl ?_
            refine r_getR h kf_X7_34 dX7_isConsistent_67 rfl rfl (by decide) rfl (Eq.trans rfl q11) ?_
            refine r_iload_n h dX7_isConsistent_70 rfl ?_
            obtain ⟨v16, q17, hoc⟩ := k_ob hoc
            refine r_callV h hMe (rest := []) (as := [k_i (x1)]) (oc := .inl (k_mI v16, σ)) (j_X5_outcomeOf la hla G _ (j10) (x1) _ q17) kl_X7_230 dX7_isConsistent_71 rfl rfl rfl rfl rfl ⟨rfl, rfl, Nat.le_of_ble_eq_true rfl, Nat.le_of_ble_eq_true rfl, Nat.le_of_ble_eq_true rfl, Nat.le_of_ble_eq_true rfl, Nat.le_of_ble_eq_true rfl⟩ (fun E q => by cases q) (fun r s q => ?_)
            cases q
            show k_W X _ _ _ _ _ ([k_i (v16)])
            refine r_aload_n h dX7_isConsistent_74 rfl ?_
            obtain ⟨j18, q19, hoc⟩ := k_ob hoc
            refine r_getR h kf_X7_38 dX7_isConsistent_75 rfl rfl (by decide) rfl (Eq.trans rfl q19) ?_
            refine r_iload_n h dX7_isConsistent_78 rfl ?_
            obtain ⟨v20, q21, hoc⟩ := k_ob hoc
            refine r_callV h hMe (rest := [k_i (v16)]) (as := [k_i (x1)]) (oc := .inl (k_mI v20, σ)) (j_X5_outcomeOf la hla G _ (j18) (x1) _ q21) kl_X7_230 dX7_isConsistent_79 rfl rfl rfl rfl rfl ⟨rfl, rfl, Nat.le_of_ble_eq_true rfl, Nat.le_of_ble_eq_true rfl, Nat.le_of_ble_eq_true rfl, Nat.le_of_ble_eq_true rfl, Nat.le_of_ble_eq_true rfl⟩ (fun E q => by cases q) (fun r s q => ?_)
            cases q
            show k_W X _ _ _ _ _ ([k_i (v20), k_i (v16)])
            refine r_icmp_eq (tgt := 87) h dX7_isConsistent_82 (by decide) (fun c22 => ?_) (fun c22 => ?_)
            · replace hoc := (if_pos c22).symm.trans hoc
              refine r_iinc (v := (x1 + 1)) (L' := [some (k_p 0 (i0)), some (k_i ((x1 + 1))), some (k_i (0)), some (k_i (0))]) h dX7_isConsistent_87 rfl rfl (by decide) rfl ?_
              refine r_goto (tgt := 6) h dX7_isConsistent_90 (by decide) ?_
              exact r_forget (L' := [some (k_p 0 (i0)), some (k_i ((x1 + 1))), none, none]) (k_le_ok ⟨rfl, ⟨rfl, trivial⟩⟩) (ih ((x1 + 1)) _ hoc kk hret)
            · replace hoc := (if_neg c22).symm.trans hoc
              refine r_iconst (v := 0) h dX7_isConsistent_85 (by decide) ?_
              cases hoc
              exact r_ireturn h hEn dX7_isConsistent_86 rfl (by decide) (hret _ rfl) (by decide) (by decide)
        · replace hoc := (if_neg c14).symm.trans hoc
          refine r_iconst (v := 1) h dX7_isConsistent_55 (by decide) ?_
          refine r_goto (tgt := 60) h dX7_isConsistent_56 (by decide) ?_
          refine r_istore_n (L' := [some (k_p 0 (i0)), some (k_i (x1)), some (k_i (0)), some (k_i (1))]) h dX7_isConsistent_60 (by decide) rfl ?_
          refine r_iload_n h dX7_isConsistent_61 rfl ?_
          refine r_iload_n h dX7_isConsistent_62 rfl ?_
          refine r_icmp_ne (tgt := 85) h dX7_isConsistent_63 (by decide) (fun c23 => ?_) (fun c23 => ?_)
          · replace hoc := (if_neg c23).symm.trans hoc
            refine r_iconst (v := 0) h dX7_isConsistent_85 (by decide) ?_
            cases hoc
            exact r_ireturn h hEn dX7_isConsistent_86 rfl (by decide) (hret _ rfl) (by decide) (by decide)
          · replace hoc := (if_pos c23).symm.trans hoc
            refine r_aload_n h dX7_isConsistent_66 rfl ?_
            refine r_getR h kf_X7_34 dX7_isConsistent_67 rfl rfl (by decide) rfl (Eq.trans rfl q11) ?_
            refine r_iload_n h dX7_isConsistent_70 rfl ?_
            obtain ⟨v24, q25, hoc⟩ := k_ob hoc
            refine r_callV h hMe (rest := []) (as := [k_i (x1)]) (oc := .inl (k_mI v24, σ)) (j_X5_outcomeOf la hla G _ (j10) (x1) _ q25) kl_X7_230 dX7_isConsistent_71 rfl rfl rfl rfl rfl ⟨rfl, rfl, Nat.le_of_ble_eq_true rfl, Nat.le_of_ble_eq_true rfl, Nat.le_of_ble_eq_true rfl, Nat.le_of_ble_eq_true rfl, Nat.le_of_ble_eq_true rfl⟩ (fun E q => by cases q) (fun r s q => ?_)
            cases q
            show k_W X _ _ _ _ _ ([k_i (v24)])
            refine r_aload_n h dX7_isConsistent_74 rfl ?_
            obtain ⟨j26, q27, hoc⟩ := k_ob hoc
            refine r_getR h kf_X7_38 dX7_isConsistent_75 rfl rfl (by decide) rfl (Eq.trans rfl q27) ?_
            refine r_iload_n h dX7_isConsistent_78 rfl ?_
            obtain ⟨v28, q29, hoc⟩ := k_ob hoc
            refine r_callV h hMe (rest := [k_i (v24)]) (as := [k_i (x1)]) (oc := .inl (k_mI v28, σ)) (j_X5_outcomeOf la hla G _ (j26) (x1) _ q29) kl_X7_230 dX7_isConsistent_79 rfl rfl rfl rfl rfl ⟨rfl, rfl, Nat.le_of_ble_eq_true rfl, Nat.le_of_ble_eq_true rfl, Nat.le_of_ble_eq_true rfl, Nat.le_of_ble_eq_true rfl, Nat.le_of_ble_eq_true rfl⟩ (fun E q => by cases q) (fun r s q => ?_)
            cases q
            show k_W X _ _ _ _ _ ([k_i (v28), k_i (v24)])
            refine r_icmp_eq (tgt := 87) h dX7_isConsistent_82 (by decide) (fun c30 => ?_) (fun c30 => ?_)
            · replace hoc := (if_pos c30).symm.trans hoc
              refine r_iinc (v := (x1 + 1)) (L' := [some (k_p 0 (i0)), some (k_i ((x1 + 1))), some (k_i (0)), some (k_i (1))]) h dX7_isConsistent_87 rfl rfl (by decide) rfl ?_
              refine r_goto (tgt := 6) h dX7_isConsistent_90 (by decide) ?_
              exact r_forget (L' := [some (k_p 0 (i0)), some (k_i ((x1 + 1))), none, none]) (k_le_ok ⟨rfl, ⟨rfl, trivial⟩⟩) (ih ((x1 + 1)) _ hoc kk hret)
            · replace hoc := (if_neg c30).symm.trans hoc
              refine r_iconst (v := 0) h dX7_isConsistent_85 (by decide) ?_
              cases hoc
              exact r_ireturn h hEn dX7_isConsistent_86 rfl (by decide) (hret _ rfl) (by decide) (by decide)
      · replace hoc := (if_pos c9).symm.trans hoc
        refine r_iconst (v := 1) h dX7_isConsistent_36 (by decide) ?_
        refine r_goto (tgt := 41) h dX7_isConsistent_37 (by decide) ?_
        refine r_istore_n (L' := [some (k_p 0 (i0)), some (k_i (x1)), some (k_i (1)), none]) h dX7_isConsistent_41 (by decide) rfl ?_
        refine r_aload_n h dX7_isConsistent_42 rfl ?_
        obtain ⟨j31, q32, hoc⟩ := k_ob hoc
        refine r_getR h kf_X7_34 dX7_isConsistent_43 rfl rfl (by decide) rfl (Eq.trans rfl q32) ?_
        refine r_iload_n h dX7_isConsistent_46 rfl ?_
        obtain ⟨v33, q34, hoc⟩ := k_ob hoc
        refine r_callV h hMe (rest := []) (as := [k_i (x1)]) (oc := .inl (k_mI v33, σ)) (j_X5_outcomeOf la hla G _ (j31) (x1) _ q34) kl_X7_230 dX7_isConsistent_47 rfl rfl rfl rfl rfl ⟨rfl, rfl, Nat.le_of_ble_eq_true rfl, Nat.le_of_ble_eq_true rfl, Nat.le_of_ble_eq_true rfl, Nat.le_of_ble_eq_true rfl, Nat.le_of_ble_eq_true rfl⟩ (fun E q => by cases q) (fun r s q => ?_)
        cases q
        show k_W X _ _ _ _ _ ([k_i (v33)])
        refine r_bipush (v := 45) h dX7_isConsistent_50 (by decide) ?_
        refine r_icmp_eq (tgt := 59) h dX7_isConsistent_52 (by decide) (fun c35 => ?_) (fun c35 => ?_)
        · replace hoc := (if_pos c35).symm.trans hoc
          refine r_iconst (v := 0) h dX7_isConsistent_59 (by decide) ?_
          refine r_istore_n (L' := [some (k_p 0 (i0)), some (k_i (x1)), some (k_i (1)), some (k_i (0))]) h dX7_isConsistent_60 (by decide) rfl ?_
          refine r_iload_n h dX7_isConsistent_61 rfl ?_
          refine r_iload_n h dX7_isConsistent_62 rfl ?_
          refine r_icmp_ne (tgt := 85) h dX7_isConsistent_63 (by decide) (fun c36 => ?_) (fun c36 => ?_)
          · replace hoc := (if_neg c36).symm.trans hoc
            refine r_iconst (v := 0) h dX7_isConsistent_85 (by decide) ?_
            cases hoc
            exact r_ireturn h hEn dX7_isConsistent_86 rfl (by decide) (hret _ rfl) (by decide) (by decide)
          · replace hoc := (if_pos c36).symm.trans hoc
            refine r_aload_n h dX7_isConsistent_66 rfl ?_
            refine r_getR h kf_X7_34 dX7_isConsistent_67 rfl rfl (by decide) rfl (Eq.trans rfl q32) ?_
            refine r_iload_n h dX7_isConsistent_70 rfl ?_
            obtain ⟨v37, q38, hoc⟩ := k_ob hoc
            refine r_callV h hMe (rest := []) (as := [k_i (x1)]) (oc := .inl (k_mI v37, σ)) (j_X5_outcomeOf la hla G _ (j31) (x1) _ q38) kl_X7_230 dX7_isConsistent_71 rfl rfl rfl rfl rfl ⟨rfl, rfl, Nat.le_of_ble_eq_true rfl, Nat.le_of_ble_eq_true rfl, Nat.le_of_ble_eq_true rfl, Nat.le_of_ble_eq_true rfl, Nat.le_of_ble_eq_true rfl⟩ (fun E q => by cases q) (fun r s q => ?_)
            cases q
            show k_W X _ _ _ _ _ ([k_i (v37)])
            refine r_aload_n h dX7_isConsistent_74 rfl ?_
            obtain ⟨j39, q40, hoc⟩ := k_ob hoc
            refine r_getR h kf_X7_38 dX7_isConsistent_75 rfl rfl (by decide) rfl (Eq.trans rfl q40) ?_
            refine r_iload_n h dX7_isConsistent_78 rfl ?_
            obtain ⟨v41, q42, hoc⟩ := k_ob hoc
            refine r_callV h hMe (rest := [k_i (v37)]) (as := [k_i (x1)]) (oc := .inl (k_mI v41, σ)) (j_X5_outcomeOf la hla G _ (j39) (x1) _ q42) kl_X7_230 dX7_isConsistent_79 rfl rfl rfl rfl rfl ⟨rfl, rfl, Nat.le_of_ble_eq_true rfl, Nat.le_of_ble_eq_true rfl, Nat.le_of_ble_eq_true rfl, Nat.le_of_ble_eq_true rfl, Nat.le_of_ble_eq_true rfl⟩ (fun E q => by cases q) (fun r s q => ?_)
            cases q
            show k_W X _ _ _ _ _ ([k_i (v41), k_i (v37)])
            refine r_icmp_eq (tgt := 87) h dX7_isConsistent_82 (by decide) (fun c43 => ?_) (fun c43 => ?_)
            · replace hoc := (if_pos c43).symm.trans hoc
              refine r_iinc (v := (x1 + 1)) (L' := [some (k_p 0 (i0)), some (k_i ((x1 + 1))), some (k_i (1)), some (k_i (0))]) h dX7_isConsistent_87 rfl rfl (by decide) rfl ?_
              refine r_goto (tgt := 6) h dX7_isConsistent_90 (by decide) ?_
              exact r_forget (L' := [some (k_p 0 (i0)), some (k_i ((x1 + 1))), none, none]) (k_le_ok ⟨rfl, ⟨rfl, trivial⟩⟩) (ih ((x1 + 1)) _ hoc kk hret)
            · replace hoc := (if_neg c43).symm.trans hoc
              refine r_iconst (v := 0) h dX7_isConsistent_85 (by decide) ?_
              cases hoc
              exact r_ireturn h hEn dX7_isConsistent_86 rfl (by decide) (hret _ rfl) (by decide) (by decide)
        · replace hoc := (if_neg c35).symm.trans hoc
          refine r_iconst (v := 1) h dX7_isConsistent_55 (by decide) ?_
          refine r_goto (tgt := 60) h dX7_isConsistent_56 (by decide) ?_
          refine r_istore_n (L' := [some (k_p 0 (i0)), some (k_i (x1)), some (k_i (1)), some (k_i (1))]) h dX7_isConsistent_60 (by decide) rfl ?_
          refine r_iload_n h dX7_isConsistent_61 rfl ?_
          refine r_iload_n h dX7_isConsistent_62 rfl ?_
          refine r_icmp_ne (tgt := 85) h dX7_isConsistent_63 (by decide) (fun c44 => ?_) (fun c44 => ?_)
          · replace hoc := (if_neg c44).symm.trans hoc
            refine r_iconst (v := 0) h dX7_isConsistent_85 (by decide) ?_
            cases hoc
            exact r_ireturn h hEn dX7_isConsistent_86 rfl (by decide) (hret _ rfl) (by decide) (by decide)
          · replace hoc := (if_pos c44).symm.trans hoc
            refine r_aload_n h dX7_isConsistent_66 rfl ?_
            refine r_getR h kf_X7_34 dX7_isConsistent_67 rfl rfl (by decide) rfl (Eq.trans rfl q32) ?_
            refine r_iload_n h dX7_isConsistent_70 rfl ?_
            obtain ⟨v45, q46, hoc⟩ := k_ob hoc
            refine r_callV h hMe (rest := []) (as := [k_i (x1)]) (oc := .inl (k_mI v45, σ)) (j_X5_outcomeOf la hla G _ (j31) (x1) _ q46) kl_X7_230 dX7_isConsistent_71 rfl rfl rfl rfl rfl ⟨rfl, rfl, Nat.le_of_ble_eq_true rfl, Nat.le_of_ble_eq_true rfl, Nat.le_of_ble_eq_true rfl, Nat.le_of_ble_eq_true rfl, Nat.le_of_ble_eq_true rfl⟩ (fun E q => by cases q) (fun r s q => ?_)
            cases q
            show k_W X _ _ _ _ _ ([k_i (v45)])
            refine r_aload_n h dX7_isConsistent_74 rfl ?_
            obtain ⟨j47, q48, hoc⟩ := k_ob hoc
            refine r_getR h kf_X7_38 dX7_isConsistent_75 rfl rfl (by decide) rfl (Eq.trans rfl q48) ?_
            refine r_iload_n h dX7_isConsistent_78 rfl ?_
            obtain ⟨v49, q50, hoc⟩ := k_ob hoc
            refine r_callV h hMe (rest := [k_i (v45)]) (as := [k_i (x1)]) (oc := .inl (k_mI v49, σ)) (j_X5_outcomeOf la hla G _ (j47) (x1) _ q50) kl_X7_230 dX7_isConsistent_79 rfl rfl rfl rfl rfl ⟨rfl, rfl, Nat.le_of_ble_eq_true rfl, Nat.le_of_ble_eq_true rfl, Nat.le_of_ble_eq_true rfl, Nat.le_of_ble_eq_true rfl, Nat.le_of_ble_eq_true rfl⟩ (fun E q => by cases q) (fun r s q => ?_)
            cases q
            show k_W X _ _ _ _ _ ([k_i (v49), k_i (v45)])
            refine r_icmp_eq (tgt := 87) h dX7_isConsistent_82 (by decide) (fun c51 => ?_) (fun c51 => ?_)
            · replace hoc := (if_pos c51).symm.trans hoc
              refine r_iinc (v := (x1 + 1)) (L' := [some (k_p 0 (i0)), some (k_i ((x1 + 1))), some (k_i (1)), some (k_i (1))]) h dX7_isConsistent_87 rfl rfl (by decide) rfl ?_
              refine r_goto (tgt := 6) h dX7_isConsistent_90 (by decide) ?_
              exact r_forget (L' := [some (k_p 0 (i0)), some (k_i ((x1 + 1))), none, none]) (k_le_ok ⟨rfl, ⟨rfl, trivial⟩⟩) (ih ((x1 + 1)) _ hoc kk hret)
            · replace hoc := (if_neg c51).symm.trans hoc
              refine r_iconst (v := 0) h dX7_isConsistent_85 (by decide) ?_
              cases hoc
              exact r_ireturn h hEn dX7_isConsistent_86 rfl (by decide) (hret _ rfl) (by decide) (by decide)
def f_X7_isConsistent_l2 (t : Nat) (i0 : Nat) (σ : k_S) (x1 : Int32) : Option ((Int32) ⊕ (Int32 × k_S)) := match t with
  | 0 => none
  | t + 1 => (if k_P σ 0 (i0) (2) = some 0 then (if (nI (k_Z σ 14)) ≤ x1 then some (.inl (x1)) else (if 0 ≤ x1 ∧ (x1 : Int32).toNatClampNeg < k_Z σ 14 ∧ k_Z σ 14 ≤ 200 then ((k_P σ 14 (0) ((x1 : Int32).toNatClampNeg)).bind fun j58 => (if k_I σ 4 (j58) (1) < (50 : Int32) then some (.inr ((0, σ))) else (if k_I σ 4 (j58) (1) ≤ (100 : Int32) then f_X7_isConsistent_l2 t i0 σ ((x1 + 1)) else some (.inr ((0, σ)))))) else none)) else none)
theorem j_X7_isConsistent_l2 (la : Launch) (hla : la.flags = flags0) (G : k_G) (X : k_X) (σ0 σ : k_S) (h : k_Ok X RX7 cX7_isConsistent 4) (hMe : k_Me X la G σ0 { frames := 6, cells := 0, slots := 0, locals := 148 } "isConsistent") (oc : k_Oc) (hEn : k_En X (Option.some ClassFile.FieldType.boolean) oc 0 0 []) (i0 : Nat) : ∀ (t : Nat) (x1 : Int32) (r : ((Int32) ⊕ (Int32 × k_S))), f_X7_isConsistent_l2 t i0 σ x1 = some r → (∀ e, r = .inl e → k_W X σ 0 0 141 [some (k_p 0 (i0)), some (k_i (e)), none, none] []) → (∀ p, r = .inr p → oc = (.inl (k_mI p.1, p.2))) → k_W X σ 0 0 95 [some (k_p 0 (i0)), some (k_i (x1)), none, none] [] := by
  intro t
  induction t with
  | zero =>
    intro x1 r hoc kk hret
    cases hoc
  | succ t ih =>
    intro x1 r hoc kk hret
    rw [f_X7_isConsistent_l2] at hoc
    refine r_iload_n h dX7_isConsistent_95 rfl ?_
    refine r_aload_n h dX7_isConsistent_96 rfl ?_
    obtain ⟨q55, hoc⟩ := k_gd hoc
    refine r_getR h kf_X7_19 dX7_isConsistent_97 rfl rfl (by decide) rfl (Eq.trans rfl q55) ?_
    refine r_callL h hMe (rest := [k_i (x1)]) (as := []) (j_size la hla G _ 14 rfl) kl_X7_52 dX7_isConsistent_100 rfl rfl rfl rfl ⟨rfl, rfl, Nat.le_of_ble_eq_true rfl, Nat.le_of_ble_eq_true rfl, Nat.le_of_ble_eq_true rfl, Nat.le_of_ble_eq_true rfl, Nat.le_of_ble_eq_true rfl⟩ (fun E q => by cases q) (fun r s q => ?_)
    cases q
    refine r_icmp_ge (tgt := 141) h dX7_isConsistent_103 (by decide) (fun c56 => ?_) (fun c56 => ?_)
    · replace hoc := (if_pos c56).symm.trans hoc
      cases hoc
      exact kk _ rfl
    · replace hoc := (if_neg c56).symm.trans hoc
      refine r_aload_n h dX7_isConsistent_106 rfl ?_
      refine r_getR h kf_X7_19 dX7_isConsistent_107 rfl rfl (by decide) rfl (Eq.trans rfl q55) ?_
      refine r_iload_n h dX7_isConsistent_110 rfl ?_
      obtain ⟨c57, hoc⟩ := k_gd hoc
      obtain ⟨j58, q59, hoc⟩ := k_ob hoc
      refine r_lget h hla hMe (rest := []) c57 (Eq.trans rfl q59) rfl kl_X7_117 dX7_isConsistent_111 ⟨Nat.le_of_ble_eq_true rfl, Nat.le_of_ble_eq_true rfl, Nat.le_of_ble_eq_true rfl, Nat.le_of_ble_eq_true rfl, Nat.le_of_ble_eq_true rfl⟩ ?_
      refine r_cast1 h dX7_isConsistent_114 wd_223 rfl rfl rfl ?_
      refine r_getI h kf_X7_160 dX7_isConsistent_117 rfl rfl (by decide) rfl ?_
      refine r_istore_n (L' := [some (k_p 0 (i0)), some (k_i (x1)), some (k_i (k_I σ 4 (j58) (1))), none]) h dX7_isConsistent_120 (by decide) rfl ?_
      refine r_iload_n h dX7_isConsistent_121 rfl ?_
      refine r_bipush (v := 50) h dX7_isConsistent_122 (by decide) ?_
      refine r_icmp_lt (tgt := 133) h dX7_isConsistent_124 (by decide) (fun c60 => ?_) (fun c60 => ?_)
      · replace hoc := (if_pos c60).symm.trans hoc
        refine r_iconst (v := 0) h dX7_isConsistent_133 (by decide) ?_
        cases hoc
        exact r_ireturn h hEn dX7_isConsistent_134 rfl (by decide) (hret _ rfl) (by decide) (by decide)
      · replace hoc := (if_neg c60).symm.trans hoc
        refine r_iload_n h dX7_isConsistent_127 rfl ?_
        refine r_bipush (v := 100) h dX7_isConsistent_128 (by decide) ?_
        refine r_icmp_le (tgt := 135) h dX7_isConsistent_130 (by decide) (fun c61 => ?_) (fun c61 => ?_)
        · replace hoc := (if_pos c61).symm.trans hoc
          refine r_iinc (v := (x1 + 1)) (L' := [some (k_p 0 (i0)), some (k_i ((x1 + 1))), some (k_i (k_I σ 4 (j58) (1))), none]) h dX7_isConsistent_135 rfl rfl (by decide) rfl ?_
          refine r_goto (tgt := 95) h dX7_isConsistent_138 (by decide) ?_
          exact r_forget (L' := [some (k_p 0 (i0)), some (k_i ((x1 + 1))), none, none]) (k_le_ok ⟨rfl, ⟨rfl, trivial⟩⟩) (ih ((x1 + 1)) _ hoc kk hret)
        · replace hoc := (if_neg c61).symm.trans hoc
          refine r_iconst (v := 0) h dX7_isConsistent_133 (by decide) ?_
          cases hoc
          exact r_ireturn h hEn dX7_isConsistent_134 rfl (by decide) (hret _ rfl) (by decide) (by decide)
def f_X7_isConsistent (σ : k_S) (i0 : Nat) : Option (Int32 × k_S) :=
  ((f_X7_settleAllAnew σ (i0)).bind fun v1 => (k_lr (f_X7_isConsistent_l1 200 i0 v1.2 (0)) fun v52 => (k_lr (f_X7_isConsistent_l2 200 i0 v1.2 (0)) fun v62 => ((k_P v1.2 0 (i0) (6)).bind fun j64 => ((k_P v1.2 0 (i0) (7)).bind fun j66 => (if k_I v1.2 8 (j64) (2) = k_I v1.2 8 (j66) (2) then some ((1, v1.2)) else some ((0, v1.2))))))))
theorem j_X7_isConsistent (la : Launch) (hla : la.flags = flags0) (G : k_G) (σ : k_S) (i0 : Nat) (x : (Int32 × k_S)) (hoc : f_X7_isConsistent σ i0 = some x) : k_Ct la G yX7_isConsistent (k_ws yX7_isConsistent cX7_isConsistent 4 (Option.some ClassFile.FieldType.boolean)) { frames := 6, cells := 0, slots := 0, locals := 148 } [k_p 0 (i0)] σ (.inl (k_mI x.1, x.2)) 0 0 := by
  refine k_body hla (by decide +kernel) (k_wl rfl) (Nat.le_of_ble_eq_true rfl) (fun X h hEn hMe => ?_)
  show k_W X σ 0 0 0 [some (k_p 0 (i0)), none, none, none] []
  unfold f_X7_isConsistent at hoc
  refine r_aload_n h dX7_isConsistent_0 rfl ?_
  obtain ⟨v1, q2, hoc⟩ := k_ob hoc
  refine r_callV h hMe (rest := []) (as := []) (oc := .inl (k_mU v1.1, v1.2)) (j_X7_settleAllAnew la hla G _ (i0) _ q2) kl_X7_234 dX7_isConsistent_1 rfl rfl rfl rfl rfl ⟨rfl, rfl, Nat.le_of_ble_eq_true rfl, Nat.le_of_ble_eq_true rfl, Nat.le_of_ble_eq_true rfl, Nat.le_of_ble_eq_true rfl, Nat.le_of_ble_eq_true rfl⟩ (fun E q => by cases q) (fun r s q => ?_)
  cases q
  show k_W X _ _ _ _ _ ([])
  refine r_iconst (v := 0) h dX7_isConsistent_4 (by decide) ?_
  refine r_istore_n (L' := [some (k_p 0 (i0)), some (k_i (0)), none, none]) h dX7_isConsistent_5 (by decide) rfl ?_
  rcases k_lr_ex hoc with ⟨v52, q53, hoc⟩ | q53
  · refine j_X7_isConsistent_l1 la hla G X σ v1.2 h hMe _ hEn i0 200 (0) _ q53 (fun e5 q5 => ?_) (fun p5 q5 => by cases q5)
    cases q5
    refine r_iconst (v := 0) h dX7_isConsistent_93 (by decide) ?_
    refine r_istore_n (L' := [some (k_p 0 (i0)), some (k_i (0)), none, none]) h dX7_isConsistent_94 (by decide) rfl ?_
    rcases k_lr_ex hoc with ⟨v62, q63, hoc⟩ | q63
    · refine j_X7_isConsistent_l2 la hla G X σ v1.2 h hMe _ hEn i0 200 (0) _ q63 (fun e5 q5 => ?_) (fun p5 q5 => by cases q5)
      cases q5
      refine r_aload_n h dX7_isConsistent_141 rfl ?_
      obtain ⟨j64, q65, hoc⟩ := k_ob hoc
      refine r_getR h kf_X7_34 dX7_isConsistent_142 rfl rfl (by decide) rfl (Eq.trans rfl q65) ?_
      refine r_getI h kf_X7_275 dX7_isConsistent_145 rfl rfl (by decide) rfl ?_
      refine r_aload_n h dX7_isConsistent_148 rfl ?_
      obtain ⟨j66, q67, hoc⟩ := k_ob hoc
      refine r_getR h kf_X7_38 dX7_isConsistent_149 rfl rfl (by decide) rfl (Eq.trans rfl q67) ?_
      refine r_getI h kf_X7_275 dX7_isConsistent_152 rfl rfl (by decide) rfl ?_
      refine r_icmp_ne (tgt := 162) h dX7_isConsistent_155 (by decide) (fun c68 => ?_) (fun c68 => ?_)
      · replace hoc := (if_neg c68).symm.trans hoc
        refine r_iconst (v := 0) h dX7_isConsistent_162 (by decide) ?_
        cases hoc
        exact r_ireturn h hEn dX7_isConsistent_163 rfl (by decide) rfl (by decide) (by decide)
      · replace hoc := (if_pos c68).symm.trans hoc
        refine r_iconst (v := 1) h dX7_isConsistent_158 (by decide) ?_
        refine r_goto (tgt := 163) h dX7_isConsistent_159 (by decide) ?_
        cases hoc
        exact r_ireturn h hEn dX7_isConsistent_163 rfl (by decide) rfl (by decide) (by decide)
    · exact j_X7_isConsistent_l2 la hla G X σ v1.2 h hMe _ hEn i0 200 (0) _ q63 (fun e5 q5 => by cases q5) (fun p5 q5 => by cases q5; rfl)
  · exact j_X7_isConsistent_l1 la hla G X σ v1.2 h hMe _ hEn i0 200 (0) _ q53 (fun e5 q5 => by cases q5) (fun p5 q5 => by cases q5; rfl)
def f_X8_thrown (σ : k_S) (i0 : Nat) : Option Int32 :=
  some (k_I σ 1 (i0) (0))
theorem j_X8_thrown (la : Launch) (hla : la.flags = flags0) (G : k_G) (σ : k_S) (i0 : Nat) (x : Int32) (hoc : f_X8_thrown σ i0 = some x) : k_Ct la G yX8_thrown (k_ws yX8_thrown cX8_thrown 1 (Option.some ClassFile.FieldType.int)) { frames := 0, cells := 0, slots := 0, locals := 1 } [k_p 1 (i0)] σ (.inl (k_mI x, σ)) 0 0 := by
  refine k_body hla (by decide +kernel) (k_wl rfl) (Nat.le_of_ble_eq_true rfl) (fun X h hEn hMe => ?_)
  show k_W X σ 0 0 0 [some (k_p 1 (i0))] []
  unfold f_X8_thrown at hoc
  refine r_aload_n h dX8_thrown_0 rfl ?_
  refine r_getI h kf_X8_84 dX8_thrown_1 rfl rfl (by decide) rfl ?_
  cases hoc
  exact r_ireturn h hEn dX8_thrown_4 rfl rfl rfl (by decide) (by decide)
def f_X8_fails (σ : k_S) (i0 : Nat) (a1 : Int32) : Option (Int32 × k_S) :=
  some ((0, (k_uI σ 1 (i0) (0) (a1))))
theorem j_X8_fails (la : Launch) (hla : la.flags = flags0) (G : k_G) (σ : k_S) (i0 : Nat) (a1 : Int32) (x : (Int32 × k_S)) (hoc : f_X8_fails σ i0 a1 = some x) : k_Ct la G yX8_fails (k_ws yX8_fails cX8_fails 2 (Option.some ClassFile.FieldType.int)) { frames := 0, cells := 0, slots := 0, locals := 1 } [k_p 1 (i0), k_i (a1)] σ (.inl (k_mI x.1, x.2)) 0 0 := by
  refine k_body hla (by decide +kernel) (k_wl rfl) (Nat.le_of_ble_eq_true rfl) (fun X h hEn hMe => ?_)
  show k_W X σ 0 0 0 [some (k_p 1 (i0)), some (k_i (a1))] []
  unfold f_X8_fails at hoc
  refine r_aload_n h dX8_fails_0 rfl ?_
  refine r_iload_n h dX8_fails_1 rfl ?_
  refine r_putI (x := a1) h kp_X8_84 dX8_fails_2 rfl rfl (by decide) rfl rfl (k_fit_int _) ?_
  refine r_iconst (v := 0) h dX8_fails_5 (by decide) ?_
  cases hoc
  exact r_ireturn h hEn dX8_fails_6 rfl rfl rfl (by decide) (by decide)
