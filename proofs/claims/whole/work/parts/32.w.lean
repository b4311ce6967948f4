/-! ===== walks 2 (written by wip/whole/gen_walk.py, emit_walk.py) ===== -/
def f_X7_requireIndex (σ : k_S) (a1 : Int32) (a2 : Int32) : Option (Unit ⊕ String) :=
  (if a1 < 0 then some (.inr "java/lang/IndexOutOfBoundsException") else (if a1 < a2 then some (.inl (())) else some (.inr "java/lang/IndexOutOfBoundsException")))
theorem j_X7_requireIndex (la : Launch) (hla : la.flags = flags0) (G : k_G) (σ : k_S) (a1 : Int32) (a2 : Int32) (x : (Unit ⊕ String)) (hoc : f_X7_requireIndex σ a1 a2 = some x) : k_Ct la G yX7_requireIndex (k_ws yX7_requireIndex cX7_requireIndex 2 (Option.none : Option ClassFile.FieldType)) { frames := 6, cells := 1, slots := 6, locals := 82 } [k_i (a1), k_i (a2)] σ (k_tc k_mU σ x) 1 6 := by
  refine k_body hla (by decide +kernel) (k_wl rfl) (Nat.le_of_ble_eq_true rfl) (fun X h hEn hMe => ?_)
  show k_W X σ 0 0 0 [some (k_i (a1)), some (k_i (a2))] []
  unfold f_X7_requireIndex at hoc
  refine r_iload_n h dX7_requireIndex_0 rfl ?_
  refine r_if_lt (tgt := 9) h dX7_requireIndex_1 (by decide) (fun c1 => ?_) (fun c1 => ?_)
  · replace hoc := (if_pos c1).symm.trans hoc
    cases hoc
    exact r_throwW h hEn hMe kt_X7_313_315 dX7_requireIndex_9 dX7_requireIndex_12 dX7_requireIndex_13 dX7_requireIndex_16 dX7_requireIndex_19 rfl (by decide) (by decide) (by decide)
  · replace hoc := (if_neg c1).symm.trans hoc
    refine r_iload_n h dX7_requireIndex_4 rfl ?_
    refine r_iload_n h dX7_requireIndex_5 rfl ?_
    refine r_icmp_lt (tgt := 20) h dX7_requireIndex_6 (by decide) (fun c2 => ?_) (fun c2 => ?_)
    · replace hoc := (if_pos c2).symm.trans hoc
      cases hoc
      exact r_return h hEn dX7_requireIndex_20 rfl rfl (by decide) (by decide)
    · replace hoc := (if_neg c2).symm.trans hoc
      cases hoc
      exact r_throwW h hEn hMe kt_X7_313_315 dX7_requireIndex_9 dX7_requireIndex_12 dX7_requireIndex_13 dX7_requireIndex_16 dX7_requireIndex_19 rfl (by decide) (by decide) (by decide)
def f_X7_ruleAt (σ : k_S) (i0 : Nat) (a1 : Int32) : Option (Nat ⊕ String) :=
  (if k_P σ 0 (i0) (0) = some 0 then (k_bt (f_X7_requireIndex σ (a1) ((nI (k_Z σ 12)))) fun v3 => (if 0 ≤ a1 ∧ (a1 : Int32).toNatClampNeg < k_Z σ 12 ∧ k_Z σ 12 ≤ 200 then ((k_P σ 12 (0) ((a1 : Int32).toNatClampNeg)).bind fun j6 => some (.inl (j6))) else none)) else none)
theorem j_X7_ruleAt (la : Launch) (hla : la.flags = flags0) (G : k_G) (σ : k_S) (i0 : Nat) (a1 : Int32) (x : (Nat ⊕ String)) (hoc : f_X7_ruleAt σ i0 a1 = some x) : k_Ct la G yX7_ruleAt (k_ws yX7_ruleAt cX7_ruleAt 2 (Option.some (ClassFile.FieldType.object "PrecedentHall$Rule"))) { frames := 7, cells := 1, slots := 6, locals := 103 } [k_p 0 (i0), k_i (a1)] σ (k_tc (k_mR 2) σ x) 1 6 := by
  refine k_body hla (by decide +kernel) (k_wl rfl) (Nat.le_of_ble_eq_true rfl) (fun X h hEn hMe => ?_)
  show k_W X σ 0 0 0 [some (k_p 0 (i0)), some (k_i (a1))] []
  unfold f_X7_ruleAt at hoc
  refine r_iload_n h dX7_ruleAt_0 rfl ?_
  refine r_aload_n h dX7_ruleAt_1 rfl ?_
  obtain ⟨q2, hoc⟩ := k_gd hoc
  refine r_getR h kf_X7_10 dX7_ruleAt_2 rfl rfl (by decide) rfl (Eq.trans rfl q2) ?_
  refine r_callL h hMe (rest := [k_i (a1)]) (as := []) (j_size la hla G _ 12 rfl) kl_X7_52 dX7_ruleAt_5 rfl rfl rfl rfl ⟨rfl, rfl, Nat.le_of_ble_eq_true rfl, Nat.le_of_ble_eq_true rfl, Nat.le_of_ble_eq_true rfl, Nat.le_of_ble_eq_true rfl, Nat.le_of_ble_eq_true rfl⟩ (fun E q => by cases q) (fun r s q => ?_)
  cases q
  rcases k_bt_ex hoc with ⟨v3, q4, hoc⟩ | ⟨e8, q4, hoc⟩
  · refine r_callS h hMe (rest := []) (as := [k_i (a1), k_i ((nI (k_Z σ 12)))]) (oc := .inl (k_mU v3, σ)) (j_X7_requireIndex la hla G _ (a1) ((nI (k_Z σ 12))) _ q4) kl_X7_157 dX7_ruleAt_8 rfl rfl  ⟨rfl, rfl, Nat.le_of_ble_eq_true rfl, Nat.le_of_ble_eq_true rfl, Nat.le_of_ble_eq_true rfl, Nat.le_of_ble_eq_true rfl, Nat.le_of_ble_eq_true rfl⟩ (fun E q => by cases q) (fun r s q => ?_)
    cases q
    show k_W X _ _ _ _ _ ([])
    refine r_aload_n h dX7_ruleAt_11 rfl ?_
    refine r_getR h kf_X7_10 dX7_ruleAt_12 rfl rfl (by decide) rfl (Eq.trans rfl q2) ?_
    refine r_iload_n h dX7_ruleAt_15 rfl ?_
    obtain ⟨c5, hoc⟩ := k_gd hoc
    obtain ⟨j6, q7, hoc⟩ := k_ob hoc
    refine r_lget h hla hMe (rest := []) c5 (Eq.trans rfl q7) rfl kl_X7_117 dX7_ruleAt_16 ⟨Nat.le_of_ble_eq_true rfl, Nat.le_of_ble_eq_true rfl, Nat.le_of_ble_eq_true rfl, Nat.le_of_ble_eq_true rfl, Nat.le_of_ble_eq_true rfl⟩ ?_
    refine r_cast1 h dX7_ruleAt_19 wd_183 rfl rfl rfl ?_
    cases hoc
    exact r_areturn h hEn dX7_ruleAt_22 rfl rfl (by decide) (by decide)
  · refine r_callS h hMe (rest := []) (as := [k_i (a1), k_i ((nI (k_Z σ 12)))]) (oc := .inr e8) (j_X7_requireIndex la hla G _ (a1) ((nI (k_Z σ 12))) _ q4) kl_X7_157 dX7_ruleAt_8 rfl rfl  ⟨rfl, rfl, Nat.le_of_ble_eq_true rfl, Nat.le_of_ble_eq_true rfl, Nat.le_of_ble_eq_true rfl, Nat.le_of_ble_eq_true rfl, Nat.le_of_ble_eq_true rfl⟩ (fun E q => ?_) (fun r s q => by cases q)
    cases q
    cases hoc
    exact k_T.out h hEn hMe rfl (by decide) (by decide)
def f_X7_rulesInForce_l1 (t : Nat) (i0 : Nat) (a1 : Int32) (σ : k_S) (x2 : Int32) (x3 : Int32) : Option (Int32 × Int32) := match t with
  | 0 => none
  | t + 1 => (if k_P σ 0 (i0) (0) = some 0 then (if (nI (k_Z σ 12)) ≤ x3 then some ((x2, x3)) else (if 0 ≤ x3 ∧ (x3 : Int32).toNatClampNeg < k_Z σ 12 ∧ k_Z σ 12 ≤ 200 then ((k_P σ 12 (0) ((x3 : Int32).toNatClampNeg)).bind fun j5 => ((f_X3_holdsOn σ (j5) (a1)).bind fun v7 => (if v7 = 0 then f_X7_rulesInForce_l1 t i0 a1 σ (x2) ((x3 + 1)) else f_X7_rulesInForce_l1 t i0 a1 σ ((x2 + 1)) ((x3 + 1))))) else none)) else none)
theorem j_X7_rulesInForce_l1 (la : Launch) (hla : la.flags = flags0) (G : k_G) (X : k_X) (σ0 σ : k_S) (h : k_Ok X RX7 cX7_rulesInForce 4) (hMe : k_Me X la G σ0 { frames := 3, cells := 0, slots := 0, locals := 71 } "rulesInForce") (i0 : Nat) (a1 : Int32) : ∀ (t : Nat) (x2 : Int32) (x3 : Int32) (e : (Int32 × Int32)), f_X7_rulesInForce_l1 t i0 a1 σ x2 x3 = some e → k_W X σ 0 0 42 [some (k_p 0 (i0)), some (k_i (a1)), some (k_i (e.1)), some (k_i (e.2))] [] → k_W X σ 0 0 4 [some (k_p 0 (i0)), some (k_i (a1)), some (k_i (x2)), some (k_i (x3))] [] := by
  intro t
  induction t with
  | zero =>
    intro x2 x3 e hoc kk
    cases hoc
  | succ t ih =>
    intro x2 x3 e hoc kk
    rw [f_X7_rulesInForce_l1] at hoc
    refine r_iload_n h dX7_rulesInForce_4 rfl ?_
    refine r_aload_n h dX7_rulesInForce_5 rfl ?_
    obtain ⟨q2, hoc⟩ := k_gd hoc
    refine r_getR h kf_X7_10 dX7_rulesInForce_6 rfl rfl (by decide) rfl (Eq.trans rfl q2) ?_
    refine r_callL h hMe (rest := [k_i (x3)]) (as := []) (j_size la hla G _ 12 rfl) kl_X7_52 dX7_rulesInForce_9 rfl rfl rfl rfl ⟨rfl, rfl, Nat.le_of_ble_eq_true rfl, Nat.le_of_ble_eq_true rfl, Nat.le_of_ble_eq_true rfl, Nat.le_of_ble_eq_true rfl, Nat.le_of_ble_eq_true rfl⟩ (fun E q => by cases q) (fun r s q => ?_)
    cases q
    refine r_icmp_ge (tgt := 42) h dX7_rulesInForce_12 (by decide) (fun c3 => ?_) (fun c3 => ?_)
    · replace hoc := (if_pos c3).symm.trans hoc
      cases hoc
      exact kk
    · replace hoc := (if_neg c3).symm.trans hoc
      refine r_aload_n h dX7_rulesInForce_15 rfl ?_
      refine r_getR h kf_X7_10 dX7_rulesInForce_16 rfl rfl (by decide) rfl (Eq.trans rfl q2) ?_
      refine r_iload_n h dX7_rulesInForce_19 rfl ?_
      obtain ⟨c4, hoc⟩ := k_gd hoc
      obtain ⟨j5, q6, hoc⟩ := k_ob hoc
      refine r_lget h hla hMe (rest := []) c4 (Eq.trans rfl q6) rfl kl_X7_117 dX7_rulesInForce_20 ⟨Nat.le_of_ble_eq_true rfl, Nat.le_of_ble_eq_true rfl, Nat.le_of_ble_eq_true rfl, Nat.le_of_ble_eq_true rfl, Nat.le_of_ble_eq_true rfl⟩ ?_
      refine r_cast1 h dX7_rulesInForce_23 wd_183 rfl rfl rfl ?_
      refine r_iload_n h dX7_rulesInForce_26 rfl ?_
      obtain ⟨v7, q8, hoc⟩ := k_ob hoc
      refine r_callV h hMe (rest := []) (as := [k_i (a1)]) (oc := .inl (k_mI v7, σ)) (j_X3_holdsOn la hla G _ (j5) (a1) _ q8) kl_X7_100 dX7_rulesInForce_27 rfl rfl rfl rfl rfl ⟨rfl, rfl, Nat.le_of_ble_eq_true rfl, Nat.le_of_ble_eq_true rfl, Nat.le_of_ble_eq_true rfl, Nat.le_of_ble_eq_true rfl, Nat.le_of_ble_eq_true rfl⟩ (fun E q => by cases q) (fun r s q => ?_)
      cases q
      show k_W X _ _ _ _ _ ([k_i (v7)])
      refine r_if_eq (tgt := 36) h dX7_rulesInForce_30 (by decide) (fun c9 => ?_) (fun c9 => ?_)
      · replace hoc := (if_pos c9).symm.trans hoc
        refine r_iinc (v := (x3 + 1)) (L' := [some (k_p 0 (i0)), some (k_i (a1)), some (k_i (x2)), some (k_i ((x3 + 1)))]) h dX7_rulesInForce_36 rfl rfl (by decide) rfl ?_
        refine r_goto (tgt := 4) h dX7_rulesInForce_39 (by decide) ?_
        exact r_forget (L' := [some (k_p 0 (i0)), some (k_i (a1)), some (k_i (x2)), some (k_i ((x3 + 1)))]) (k_le_ok ⟨rfl, ⟨rfl, ⟨rfl, ⟨rfl, trivial⟩⟩⟩⟩) (ih (x2) ((x3 + 1)) _ hoc kk)
      · replace hoc := (if_neg c9).symm.trans hoc
        refine r_iinc (v := (x2 + 1)) (L' := [some (k_p 0 (i0)), some (k_i (a1)), some (k_i ((x2 + 1))), some (k_i (x3))]) h dX7_rulesInForce_33 rfl rfl (by decide) rfl ?_
        refine r_iinc (v := (x3 + 1)) (L' := [some (k_p 0 (i0)), some (k_i (a1)), some (k_i ((x2 + 1))), some (k_i ((x3 + 1)))]) h dX7_rulesInForce_36 rfl rfl (by decide) rfl ?_
        refine r_goto (tgt := 4) h dX7_rulesInForce_39 (by decide) ?_
        exact r_forget (L' := [some (k_p 0 (i0)), some (k_i (a1)), some (k_i ((x2 + 1))), some (k_i ((x3 + 1)))]) (k_le_ok ⟨rfl, ⟨rfl, ⟨rfl, ⟨rfl, trivial⟩⟩⟩⟩) (ih ((x2 + 1)) ((x3 + 1)) _ hoc kk)
def f_X7_rulesInForce (σ : k_S) (i0 : Nat) (a1 : Int32) : Option Int32 :=
  ((f_X7_rulesInForce_l1 200 i0 a1 σ (0) (0)).bind fun v10 => some (v10.1))
theorem j_X7_rulesInForce (la : Launch) (hla : la.flags = flags0) (G : k_G) (σ : k_S) (i0 : Nat) (a1 : Int32) (x : Int32) (hoc : f_X7_rulesInForce σ i0 a1 = some x) : k_Ct la G yX7_rulesInForce (k_ws yX7_rulesInForce cX7_rulesInForce 4 (Option.some ClassFile.FieldType.int)) { frames := 3, cells := 0, slots := 0, locals := 71 } [k_p 0 (i0), k_i (a1)] σ (.inl (k_mI x, σ)) 0 0 := by
  refine k_body hla (by decide +kernel) (k_wl rfl) (Nat.le_of_ble_eq_true rfl) (fun X h hEn hMe => ?_)
  show k_W X σ 0 0 0 [some (k_p 0 (i0)), some (k_i (a1)), none, none] []
  unfold f_X7_rulesInForce at hoc
  refine r_iconst (v := 0) h dX7_rulesInForce_0 (by decide) ?_
  refine r_istore_n (L' := [some (k_p 0 (i0)), some (k_i (a1)), some (k_i (0)), none]) h dX7_rulesInForce_1 (by decide) rfl ?_
  refine r_iconst (v := 0) h dX7_rulesInForce_2 (by decide) ?_
  refine r_istore_n (L' := [some (k_p 0 (i0)), some (k_i (a1)), some (k_i (0)), some (k_i (0))]) h dX7_rulesInForce_3 (by decide) rfl ?_
  obtain ⟨v10, q11, hoc⟩ := k_ob hoc
  refine j_X7_rulesInForce_l1 la hla G X σ σ h hMe i0 a1 200 (0) (0) _ q11 ?_
  refine r_iload_n h dX7_rulesInForce_42 rfl ?_
  cases hoc
  exact r_ireturn h hEn dX7_rulesInForce_43 rfl rfl rfl (by decide) (by decide)
def f_X7_repeal (σ : k_S) (i0 : Nat) (a1 : Int32) (a2 : Int32) : Option ((Int32 × k_S) ⊕ String) :=
  (k_bt (f_X7_ruleAt σ (i0) (a1)) fun v1 => (k_bt (f_X7_requireWithin σ (a2) (((if k_I σ 0 (i0) (8) < k_I σ 2 (v1) (4) then k_I σ 2 (v1) (4) else k_I σ 0 (i0) (8)) + 1)) (1000)) fun v3 => ((f_X3_isRepealed σ (v1)).bind fun v5 => (if v5 = 0 then ((f_X7_rulesInForce (k_uI σ 2 (v1) (5) (a2)) (i0) (a2)).bind fun v8 => some (.inl (v8, (k_uI σ 2 (v1) (5) (a2))))) else some (.inr "java/lang/IllegalStateException")))))
theorem j_X7_repeal (la : Launch) (hla : la.flags = flags0) (G : k_G) (σ : k_S) (i0 : Nat) (a1 : Int32) (a2 : Int32) (x : ((Int32 × k_S) ⊕ String)) (hoc : f_X7_repeal σ i0 a1 a2 = some x) : k_Ct la G yX7_repeal (k_ws yX7_repeal cX7_repeal 4 (Option.some ClassFile.FieldType.int)) { frames := 8, cells := 3, slots := 18, locals := 124 } [k_p 0 (i0), k_i (a1), k_i (a2)] σ (k_mc k_mI x) 3 18 := by
  refine k_body hla (by decide +kernel) (k_wl rfl) (Nat.le_of_ble_eq_true rfl) (fun X h hEn hMe => ?_)
  show k_W X σ 0 0 0 [some (k_p 0 (i0)), some (k_i (a1)), some (k_i (a2)), none] []
  unfold f_X7_repeal at hoc
  refine r_aload_n h dX7_repeal_0 rfl ?_
  refine r_iload_n h dX7_repeal_1 rfl ?_
  rcases k_bt_ex hoc with ⟨v1, q2, hoc⟩ | ⟨e11, q2, hoc⟩
  · refine r_callV h hMe (rest := []) (as := [k_i (a1)]) (oc := .inl ((k_mR 2) v1, σ)) (j_X7_ruleAt la hla G _ (i0) (a1) _ q2) kl_X7_69 dX7_repeal_2 rfl rfl rfl rfl rfl ⟨rfl, rfl, Nat.le_of_ble_eq_true rfl, Nat.le_of_ble_eq_true rfl, Nat.le_of_ble_eq_true rfl, Nat.le_of_ble_eq_true rfl, Nat.le_of_ble_eq_true rfl⟩ (fun E q => by cases q) (fun r s q => ?_)
    cases q
    show k_W X _ _ _ _ _ ([k_p 2 (v1)])
    refine r_astore_n (L' := [some (k_p 0 (i0)), some (k_i (a1)), some (k_i (a2)), some (k_p 2 (v1))]) h dX7_repeal_5 (by decide) rfl ?_
    refine r_iload_n h dX7_repeal_6 rfl ?_
    refine r_aload_n h dX7_repeal_7 rfl ?_
    refine r_getI h kf_X7_41 dX7_repeal_8 rfl rfl (by decide) rfl ?_
    refine r_aload_n h dX7_repeal_11 rfl ?_
    refine r_getI h kf_X7_73 dX7_repeal_12 rfl rfl (by decide) rfl ?_
    refine r_max h hMe ⟨kl_X7_76.1.1, kl_X7_76.2, kl_X7_76.1.2.1, kl_X7_76.1.2.2.1⟩ dX7_repeal_15 ⟨Nat.le_of_ble_eq_true rfl, Nat.le_of_ble_eq_true rfl, Nat.le_of_ble_eq_true rfl, Nat.le_of_ble_eq_true rfl⟩ ?_
    refine r_iconst (v := 1) h dX7_repeal_18 (by decide) ?_
    refine r_iadd h dX7_repeal_19 ?_
    refine r_sipush (v := 1000) h dX7_repeal_20 (by decide) ?_
    rcases k_bt_ex hoc with ⟨v3, q4, hoc⟩ | ⟨e10, q4, hoc⟩
    · refine r_callS h hMe (rest := []) (as := [k_i (a2), k_i (((if k_I σ 0 (i0) (8) < k_I σ 2 (v1) (4) then k_I σ 2 (v1) (4) else k_I σ 0 (i0) (8)) + 1)), k_i (1000)]) (oc := .inl (k_mU v3, σ)) (j_X7_requireWithin la hla G _ (a2) (((if k_I σ 0 (i0) (8) < k_I σ 2 (v1) (4) then k_I σ 2 (v1) (4) else k_I σ 0 (i0) (8)) + 1)) (1000) _ q4) kl_X7_48 dX7_repeal_23 rfl rfl  ⟨rfl, rfl, Nat.le_of_ble_eq_true rfl, Nat.le_of_ble_eq_true rfl, Nat.le_of_ble_eq_true rfl, Nat.le_of_ble_eq_true rfl, Nat.le_of_ble_eq_true rfl⟩ (fun E q => by cases q) (fun r s q => ?_)
      cases q
      show k_W X _ _ _ _ _ ([])
      refine r_aload_n h dX7_repeal_26 rfl ?_
      obtain ⟨v5, q6, hoc⟩ := k_ob hoc
      refine r_callV h hMe (rest := []) (as := []) (oc := .inl (k_mI v5, σ)) (j_X3_isRepealed la hla G _ (v1) _ q6) kl_X7_82 dX7_repeal_27 rfl rfl rfl rfl rfl ⟨rfl, rfl, Nat.le_of_ble_eq_true rfl, Nat.le_of_ble_eq_true rfl, Nat.le_of_ble_eq_true rfl, Nat.le_of_ble_eq_true rfl, Nat.le_of_ble_eq_true rfl⟩ (fun E q => by cases q) (fun r s q => ?_)
      cases q
      show k_W X _ _ _ _ _ ([k_i (v5)])
      refine r_if_eq (tgt := 43) h dX7_repeal_30 (by decide) (fun c7 => ?_) (fun c7 => ?_)
      · replace hoc := (if_pos c7).symm.trans hoc
        refine r_aload_n h dX7_repeal_43 rfl ?_
        refine r_iload_n h dX7_repeal_44 rfl ?_
        refine r_putI (x := a2) h kp_X7_93 dX7_repeal_45 rfl rfl (by decide) rfl rfl (k_fit_int _) ?_
        refine r_aload_n h dX7_repeal_48 rfl ?_
        refine r_iload_n h dX7_repeal_49 rfl ?_
        obtain ⟨v8, q9, hoc⟩ := k_ob hoc
        refine r_callV h hMe (rest := []) (as := [k_i (a2)]) (oc := .inl (k_mI v8, (k_uI σ 2 (v1) (5) (a2)))) (j_X7_rulesInForce la hla G _ (i0) (a2) _ q9) kl_X7_96 dX7_repeal_50 rfl rfl rfl rfl rfl ⟨rfl, rfl, Nat.le_of_ble_eq_true rfl, Nat.le_of_ble_eq_true rfl, Nat.le_of_ble_eq_true rfl, Nat.le_of_ble_eq_true rfl, Nat.le_of_ble_eq_true rfl⟩ (fun E q => by cases q) (fun r s q => ?_)
        cases q
        show k_W X _ _ _ _ _ ([k_i (v8)])
        cases hoc
        exact r_ireturn h hEn dX7_repeal_53 rfl rfl rfl (by decide) (by decide)
      · replace hoc := (if_neg c7).symm.trans hoc
        cases hoc
        exact r_throw h hEn hMe kt_X7_86_88 dX7_repeal_33 dX7_repeal_36 dX7_repeal_37 dX7_repeal_39 dX7_repeal_42 rfl (by decide) (by decide) (by decide)
    · refine r_callS h hMe (rest := []) (as := [k_i (a2), k_i (((if k_I σ 0 (i0) (8) < k_I σ 2 (v1) (4) then k_I σ 2 (v1) (4) else k_I σ 0 (i0) (8)) + 1)), k_i (1000)]) (oc := .inr e10) (j_X7_requireWithin la hla G _ (a2) (((if k_I σ 0 (i0) (8) < k_I σ 2 (v1) (4) then k_I σ 2 (v1) (4) else k_I σ 0 (i0) (8)) + 1)) (1000) _ q4) kl_X7_48 dX7_repeal_23 rfl rfl  ⟨rfl, rfl, Nat.le_of_ble_eq_true rfl, Nat.le_of_ble_eq_true rfl, Nat.le_of_ble_eq_true rfl, Nat.le_of_ble_eq_true rfl, Nat.le_of_ble_eq_true rfl⟩ (fun E q => ?_) (fun r s q => by cases q)
      cases q
      cases hoc
      exact k_T.out h hEn hMe rfl (by decide) (by decide)
  · refine r_callV h hMe (rest := []) (as := [k_i (a1)]) (oc := .inr e11) (j_X7_ruleAt la hla G _ (i0) (a1) _ q2) kl_X7_69 dX7_repeal_2 rfl rfl rfl rfl rfl ⟨rfl, rfl, Nat.le_of_ble_eq_true rfl, Nat.le_of_ble_eq_true rfl, Nat.le_of_ble_eq_true rfl, Nat.le_of_ble_eq_true rfl, Nat.le_of_ble_eq_true rfl⟩ (fun E q => ?_) (fun r s q => by cases q)
    cases q
    cases hoc
    exact k_T.out h hEn hMe rfl (by decide) (by decide)
def f_X7_isInForce (σ : k_S) (i0 : Nat) (a1 : Int32) (a2 : Int32) : Option (Int32 ⊕ String) :=
  (k_bt (f_X7_ruleAt σ (i0) (a1)) fun v1 => (k_bt (f_X7_requireWithin σ (a2) (0) (1000)) fun v3 => ((f_X3_holdsOn σ (v1) (a2)).bind fun v5 => (if v5 = 0 ∨ v5 = 1 then some (.inl (v5)) else none))))
theorem j_X7_isInForce (la : Launch) (hla : la.flags = flags0) (G : k_G) (σ : k_S) (i0 : Nat) (a1 : Int32) (a2 : Int32) (x : (Int32 ⊕ String)) (hoc : f_X7_isInForce σ i0 a1 a2 = some x) : k_Ct la G yX7_isInForce (k_ws yX7_isInForce cX7_isInForce 4 (Option.some ClassFile.FieldType.boolean)) { frames := 8, cells := 2, slots := 12, locals := 124 } [k_p 0 (i0), k_i (a1), k_i (a2)] σ (k_tc k_mI σ x) 2 12 := by
  refine k_body hla (by decide +kernel) (k_wl rfl) (Nat.le_of_ble_eq_true rfl) (fun X h hEn hMe => ?_)
  show k_W X σ 0 0 0 [some (k_p 0 (i0)), some (k_i (a1)), some (k_i (a2)), none] []
  unfold f_X7_isInForce at hoc
  refine r_aload_n h dX7_isInForce_0 rfl ?_
  refine r_iload_n h dX7_isInForce_1 rfl ?_
  rcases k_bt_ex hoc with ⟨v1, q2, hoc⟩ | ⟨e9, q2, hoc⟩
  · refine r_callV h hMe (rest := []) (as := [k_i (a1)]) (oc := .inl ((k_mR 2) v1, σ)) (j_X7_ruleAt la hla G _ (i0) (a1) _ q2) kl_X7_69 dX7_isInForce_2 rfl rfl rfl rfl rfl ⟨rfl, rfl, Nat.le_of_ble_eq_true rfl, Nat.le_of_ble_eq_true rfl, Nat.le_of_ble_eq_true rfl, Nat.le_of_ble_eq_true rfl, Nat.le_of_ble_eq_true rfl⟩ (fun E q => by cases q) (fun r s q => ?_)
    cases q
    show k_W X _ _ _ _ _ ([k_p 2 (v1)])
    refine r_astore_n (L' := [some (k_p 0 (i0)), some (k_i (a1)), some (k_i (a2)), some (k_p 2 (v1))]) h dX7_isInForce_5 (by decide) rfl ?_
    refine r_iload_n h dX7_isInForce_6 rfl ?_
    refine r_iconst (v := 0) h dX7_isInForce_7 (by decide) ?_
    refine r_sipush (v := 1000) h dX7_isInForce_8 (by decide) ?_
    rcases k_bt_ex hoc with ⟨v3, q4, hoc⟩ | ⟨e8, q4, hoc⟩
    · refine r_callS h hMe (rest := []) (as := [k_i (a2), k_i (0), k_i (1000)]) (oc := .inl (k_mU v3, σ)) (j_X7_requireWithin la hla G _ (a2) (0) (1000) _ q4) kl_X7_48 dX7_isInForce_11 rfl rfl  ⟨rfl, rfl, Nat.le_of_ble_eq_true rfl, Nat.le_of_ble_eq_true rfl, Nat.le_of_ble_eq_true rfl, Nat.le_of_ble_eq_true rfl, Nat.le_of_ble_eq_true rfl⟩ (fun E q => by cases q) (fun r s q => ?_)
      cases q
      show k_W X _ _ _ _ _ ([])
      refine r_aload_n h dX7_isInForce_14 rfl ?_
      refine r_iload_n h dX7_isInForce_15 rfl ?_
      obtain ⟨v5, q6, hoc⟩ := k_ob hoc
      refine r_callV h hMe (rest := []) (as := [k_i (a2)]) (oc := .inl (k_mI v5, σ)) (j_X3_holdsOn la hla G _ (v1) (a2) _ q6) kl_X7_100 dX7_isInForce_16 rfl rfl rfl rfl rfl ⟨rfl, rfl, Nat.le_of_ble_eq_true rfl, Nat.le_of_ble_eq_true rfl, Nat.le_of_ble_eq_true rfl, Nat.le_of_ble_eq_true rfl, Nat.le_of_ble_eq_true rfl⟩ (fun E q => by cases q) (fun r s q => ?_)
      cases q
      show k_W X _ _ _ _ _ ([k_i (v5)])
      obtain ⟨c7, hoc⟩ := k_gd hoc
      cases hoc
      exact r_ireturn h hEn dX7_isInForce_19 rfl (k_n01 c7) rfl (by decide) (by decide)
    · refine r_callS h hMe (rest := []) (as := [k_i (a2), k_i (0), k_i (1000)]) (oc := .inr e8) (j_X7_requireWithin la hla G _ (a2) (0) (1000) _ q4) kl_X7_48 dX7_isInForce_11 rfl rfl  ⟨rfl, rfl, Nat.le_of_ble_eq_true rfl, Nat.le_of_ble_eq_true rfl, Nat.le_of_ble_eq_true rfl, Nat.le_of_ble_eq_true rfl, Nat.le_of_ble_eq_true rfl⟩ (fun E q => ?_) (fun r s q => by cases q)
      cases q
      cases hoc
      exact k_T.out h hEn hMe rfl (by decide) (by decide)
  · refine r_callV h hMe (rest := []) (as := [k_i (a1)]) (oc := .inr e9) (j_X7_ruleAt la hla G _ (i0) (a1) _ q2) kl_X7_69 dX7_isInForce_2 rfl rfl rfl rfl rfl ⟨rfl, rfl, Nat.le_of_ble_eq_true rfl, Nat.le_of_ble_eq_true rfl, Nat.le_of_ble_eq_true rfl, Nat.le_of_ble_eq_true rfl, Nat.le_of_ble_eq_true rfl⟩ (fun E q => ?_) (fun r s q => by cases q)
    cases q
    cases hoc
    exact k_T.out h hEn hMe rfl (by decide) (by decide)
def f_X7_reportAt (σ : k_S) (i0 : Nat) (a1 : Int32) : Option (Nat ⊕ String) :=
  (if k_P σ 0 (i0) (3) = some 0 then (k_bt (f_X7_requireIndex σ (a1) ((nI (k_Z σ 15)))) fun v3 => (if 0 ≤ a1 ∧ (a1 : Int32).toNatClampNeg < k_Z σ 15 ∧ k_Z σ 15 ≤ 200 then ((k_P σ 15 (0) ((a1 : Int32).toNatClampNeg)).bind fun j6 => some (.inl (j6))) else none)) else none)
theorem j_X7_reportAt (la : Launch) (hla : la.flags = flags0) (G : k_G) (σ : k_S) (i0 : Nat) (a1 : Int32) (x : (Nat ⊕ String)) (hoc : f_X7_reportAt σ i0 a1 = some x) : k_Ct la G yX7_reportAt (k_ws yX7_reportAt cX7_reportAt 2 (Option.some (ClassFile.FieldType.object "PrecedentHall$Report"))) { frames := 7, cells := 1, slots := 6, locals := 103 } [k_p 0 (i0), k_i (a1)] σ (k_tc (k_mR 5) σ x) 1 6 := by
  refine k_body hla (by decide +kernel) (k_wl rfl) (Nat.le_of_ble_eq_true rfl) (fun X h hEn hMe => ?_)
  show k_W X σ 0 0 0 [some (k_p 0 (i0)), some (k_i (a1))] []
  unfold f_X7_reportAt at hoc
  refine r_iload_n h dX7_reportAt_0 rfl ?_
  refine r_aload_n h dX7_reportAt_1 rfl ?_
  obtain ⟨q2, hoc⟩ := k_gd hoc
  refine r_getR h kf_X7_22 dX7_reportAt_2 rfl rfl (by decide) rfl (Eq.trans rfl q2) ?_
  refine r_callL h hMe (rest := [k_i (a1)]) (as := []) (j_size la hla G _ 15 rfl) kl_X7_52 dX7_reportAt_5 rfl rfl rfl rfl ⟨rfl, rfl, Nat.le_of_ble_eq_true rfl, Nat.le_of_ble_eq_true rfl, Nat.le_of_ble_eq_true rfl, Nat.le_of_ble_eq_true rfl, Nat.le_of_ble_eq_true rfl⟩ (fun E q => by cases q) (fun r s q => ?_)
  cases q
  rcases k_bt_ex hoc with ⟨v3, q4, hoc⟩ | ⟨e8, q4, hoc⟩
  · refine r_callS h hMe (rest := []) (as := [k_i (a1), k_i ((nI (k_Z σ 15)))]) (oc := .inl (k_mU v3, σ)) (j_X7_requireIndex la hla G _ (a1) ((nI (k_Z σ 15))) _ q4) kl_X7_157 dX7_reportAt_8 rfl rfl  ⟨rfl, rfl, Nat.le_of_ble_eq_true rfl, Nat.le_of_ble_eq_true rfl, Nat.le_of_ble_eq_true rfl, Nat.le_of_ble_eq_true rfl, Nat.le_of_ble_eq_true rfl⟩ (fun E q => by cases q) (fun r s q => ?_)
    cases q
    show k_W X _ _ _ _ _ ([])
    refine r_aload_n h dX7_reportAt_11 rfl ?_
    refine r_getR h kf_X7_22 dX7_reportAt_12 rfl rfl (by decide) rfl (Eq.trans rfl q2) ?_
    refine r_iload_n h dX7_reportAt_15 rfl ?_
    obtain ⟨c5, hoc⟩ := k_gd hoc
    obtain ⟨j6, q7, hoc⟩ := k_ob hoc
    refine r_lget h hla hMe (rest := []) c5 (Eq.trans rfl q7) rfl kl_X7_117 dX7_reportAt_16 ⟨Nat.le_of_ble_eq_true rfl, Nat.le_of_ble_eq_true rfl, Nat.le_of_ble_eq_true rfl, Nat.le_of_ble_eq_true rfl, Nat.le_of_ble_eq_true rfl⟩ ?_
    refine r_cast1 h dX7_reportAt_19 wd_204 rfl rfl rfl ?_
    cases hoc
    exact r_areturn h hEn dX7_reportAt_22 rfl rfl (by decide) (by decide)
  · refine r_callS h hMe (rest := []) (as := [k_i (a1), k_i ((nI (k_Z σ 15)))]) (oc := .inr e8) (j_X7_requireIndex la hla G _ (a1) ((nI (k_Z σ 15))) _ q4) kl_X7_157 dX7_reportAt_8 rfl rfl  ⟨rfl, rfl, Nat.le_of_ble_eq_true rfl, Nat.le_of_ble_eq_true rfl, Nat.le_of_ble_eq_true rfl, Nat.le_of_ble_eq_true rfl, Nat.le_of_ble_eq_true rfl⟩ (fun E q => ?_) (fun r s q => by cases q)
    cases q
    cases hoc
    exact k_T.out h hEn hMe rfl (by decide) (by decide)
def f_X7_ruleFor_l1 (t : Nat) (i0 : Nat) (a1 : Nat) (σ : k_S) (x2 : Int32) (x3 : Int32) (x4 : Int32) : Option (Int32 × Int32 × Int32) := match t with
  | 0 => none
  | t + 1 => (if k_P σ 0 (i0) (0) = some 0 then (if (nI (k_Z σ 12)) ≤ x4 then some ((x2, x3, x4)) else (if 0 ≤ x4 ∧ (x4 : Int32).toNatClampNeg < k_Z σ 12 ∧ k_Z σ 12 ≤ 200 then ((k_P σ 12 (0) ((x4 : Int32).toNatClampNeg)).bind fun j5 => ((f_X3_holdsOn σ (j5) (k_I σ 5 (a1) (5))).bind fun v7 => (if v7 = 0 then f_X7_ruleFor_l1 t i0 a1 σ (x2) (x3) ((x4 + 1)) else ((f_X2_tells σ (a1) (k_I σ 2 (j5) (0))).bind fun v10 => (if v10 = 0 then f_X7_ruleFor_l1 t i0 a1 σ (x2) (x3) ((x4 + 1)) else (if k_I σ 2 (j5) (2) < x3 then f_X7_ruleFor_l1 t i0 a1 σ (x2) (x3) ((x4 + 1)) else f_X7_ruleFor_l1 t i0 a1 σ (x4) (k_I σ 2 (j5) (2)) ((x4 + 1)))))))) else none)) else none)
theorem j_X7_ruleFor_l1 (la : Launch) (hla : la.flags = flags0) (G : k_G) (X : k_X) (σ0 σ : k_S) (h : k_Ok X RX7 cX7_ruleFor 6) (hMe : k_Me X la G σ0 { frames := 3, cells := 0, slots := 0, locals := 71 } "ruleFor") (i0 : Nat) (a1 : Nat) : ∀ (t : Nat) (x2 : Int32) (x3 : Int32) (x4 : Int32) (e : (Int32 × Int32 × Int32)), f_X7_ruleFor_l1 t i0 a1 σ x2 x3 x4 = some e → k_W X σ 0 0 81 [some (k_p 0 (i0)), some (k_p 5 (a1)), some (k_i (e.1)), some (k_i (e.2.1)), some (k_i (e.2.2)), none] [] → k_W X σ 0 0 7 [some (k_p 0 (i0)), some (k_p 5 (a1)), some (k_i (x2)), some (k_i (x3)), some (k_i (x4)), none] [] := by
  intro t
  induction t with
  | zero =>
    intro x2 x3 x4 e hoc kk
    cases hoc
  | succ t ih =>
    intro x2 x3 x4 e hoc kk
    rw [f_X7_ruleFor_l1] at hoc
    refine r_iload h dX7_ruleFor_7 rfl ?_
    refine r_aload_n h dX7_ruleFor_9 rfl ?_
    obtain ⟨q2, hoc⟩ := k_gd hoc
    refine r_getR h kf_X7_10 dX7_ruleFor_10 rfl rfl (by decide) rfl (Eq.trans rfl q2) ?_
    refine r_callL h hMe (rest := [k_i (x4)]) (as := []) (j_size la hla G _ 12 rfl) kl_X7_52 dX7_ruleFor_13 rfl rfl rfl rfl ⟨rfl, rfl, Nat.le_of_ble_eq_true rfl, Nat.le_of_ble_eq_true rfl, Nat.le_of_ble_eq_true rfl, Nat.le_of_ble_eq_true rfl, Nat.le_of_ble_eq_true rfl⟩ (fun E q => by cases q) (fun r s q => ?_)
    cases q
    refine r_icmp_ge (tgt := 81) h dX7_ruleFor_16 (by decide) (fun c3 => ?_) (fun c3 => ?_)
    · replace hoc := (if_pos c3).symm.trans hoc
      cases hoc
      exact kk
    · replace hoc := (if_neg c3).symm.trans hoc
      refine r_aload_n h dX7_ruleFor_19 rfl ?_
      refine r_getR h kf_X7_10 dX7_ruleFor_20 rfl rfl (by decide) rfl (Eq.trans rfl q2) ?_
      refine r_iload h dX7_ruleFor_23 rfl ?_
      obtain ⟨c4, hoc⟩ := k_gd hoc
      obtain ⟨j5, q6, hoc⟩ := k_ob hoc
      refine r_lget h hla hMe (rest := []) c4 (Eq.trans rfl q6) rfl kl_X7_117 dX7_ruleFor_25 ⟨Nat.le_of_ble_eq_true rfl, Nat.le_of_ble_eq_true rfl, Nat.le_of_ble_eq_true rfl, Nat.le_of_ble_eq_true rfl, Nat.le_of_ble_eq_true rfl⟩ ?_
      refine r_cast1 h dX7_ruleFor_28 wd_183 rfl rfl rfl ?_
      refine r_astore (L' := [some (k_p 0 (i0)), some (k_p 5 (a1)), some (k_i (x2)), some (k_i (x3)), some (k_i (x4)), some (k_p 2 (j5))]) h dX7_ruleFor_31 (by decide) rfl ?_
      refine r_aload h dX7_ruleFor_33 rfl ?_
      refine r_aload_n h dX7_ruleFor_35 rfl ?_
      refine r_getI h kf_X7_331 dX7_ruleFor_36 rfl rfl (by decide) rfl ?_
      obtain ⟨v7, q8, hoc⟩ := k_ob hoc
      refine r_callV h hMe (rest := []) (as := [k_i (k_I σ 5 (a1) (5))]) (oc := .inl (k_mI v7, σ)) (j_X3_holdsOn la hla G _ (j5) (k_I σ 5 (a1) (5)) _ q8) kl_X7_100 dX7_ruleFor_39 rfl rfl rfl rfl rfl ⟨rfl, rfl, Nat.le_of_ble_eq_true rfl, Nat.le_of_ble_eq_true rfl, Nat.le_of_ble_eq_true rfl, Nat.le_of_ble_eq_true rfl, Nat.le_of_ble_eq_true rfl⟩ (fun E q => by cases q) (fun r s q => ?_)
      cases q
      show k_W X _ _ _ _ _ ([k_i (v7)])
      refine r_if_eq (tgt := 75) h dX7_ruleFor_42 (by decide) (fun c9 => ?_) (fun c9 => ?_)
      · replace hoc := (if_pos c9).symm.trans hoc
        refine r_iinc (v := (x4 + 1)) (L' := [some (k_p 0 (i0)), some (k_p 5 (a1)), some (k_i (x2)), some (k_i (x3)), some (k_i ((x4 + 1))), some (k_p 2 (j5))]) h dX7_ruleFor_75 rfl rfl (by decide) rfl ?_
        refine r_goto (tgt := 7) h dX7_ruleFor_78 (by decide) ?_
        exact r_forget (L' := [some (k_p 0 (i0)), some (k_p 5 (a1)), some (k_i (x2)), some (k_i (x3)), some (k_i ((x4 + 1))), none]) (k_le_ok ⟨rfl, ⟨rfl, ⟨rfl, ⟨rfl, ⟨rfl, trivial⟩⟩⟩⟩⟩) (ih (x2) (x3) ((x4 + 1)) _ hoc kk)
      · replace hoc := (if_neg c9).symm.trans hoc
        refine r_aload_n h dX7_ruleFor_45 rfl ?_
        refine r_aload h dX7_ruleFor_46 rfl ?_
        refine r_getI h kf_X7_322 dX7_ruleFor_48 rfl rfl (by decide) rfl ?_
        obtain ⟨v10, q11, hoc⟩ := k_ob hoc
        refine r_callV h hMe (rest := []) (as := [k_i (k_I σ 2 (j5) (0))]) (oc := .inl (k_mI v10, σ)) (j_X2_tells la hla G _ (a1) (k_I σ 2 (j5) (0)) _ q11) kl_X7_334 dX7_ruleFor_51 rfl rfl rfl rfl rfl ⟨rfl, rfl, Nat.le_of_ble_eq_true rfl, Nat.le_of_ble_eq_true rfl, Nat.le_of_ble_eq_true rfl, Nat.le_of_ble_eq_true rfl, Nat.le_of_ble_eq_true rfl⟩ (fun E q => by cases q) (fun r s q => ?_)
        cases q
        show k_W X _ _ _ _ _ ([k_i (v10)])
        refine r_if_eq (tgt := 75) h dX7_ruleFor_54 (by decide) (fun c12 => ?_) (fun c12 => ?_)
        · replace hoc := (if_pos c12).symm.trans hoc
          refine r_iinc (v := (x4 + 1)) (L' := [some (k_p 0 (i0)), some (k_p 5 (a1)), some (k_i (x2)), some (k_i (x3)), some (k_i ((x4 + 1))), some (k_p 2 (j5))]) h dX7_ruleFor_75 rfl rfl (by decide) rfl ?_
          refine r_goto (tgt := 7) h dX7_ruleFor_78 (by decide) ?_
          exact r_forget (L' := [some (k_p 0 (i0)), some (k_p 5 (a1)), some (k_i (x2)), some (k_i (x3)), some (k_i ((x4 + 1))), none]) (k_le_ok ⟨rfl, ⟨rfl, ⟨rfl, ⟨rfl, ⟨rfl, trivial⟩⟩⟩⟩⟩) (ih (x2) (x3) ((x4 + 1)) _ hoc kk)
        · replace hoc := (if_neg c12).symm.trans hoc
          refine r_aload h dX7_ruleFor_57 rfl ?_
          refine r_getI h kf_X7_325 dX7_ruleFor_59 rfl rfl (by decide) rfl ?_
          refine r_iload_n h dX7_ruleFor_62 rfl ?_
          refine r_icmp_lt (tgt := 75) h dX7_ruleFor_63 (by decide) (fun c13 => ?_) (fun c13 => ?_)
          · replace hoc := (if_pos c13).symm.trans hoc
            refine r_iinc (v := (x4 + 1)) (L' := [some (k_p 0 (i0)), some (k_p 5 (a1)), some (k_i (x2)), some (k_i (x3)), some (k_i ((x4 + 1))), some (k_p 2 (j5))]) h dX7_ruleFor_75 rfl rfl (by decide) rfl ?_
            refine r_goto (tgt := 7) h dX7_ruleFor_78 (by decide) ?_
            exact r_forget (L' := [some (k_p 0 (i0)), some (k_p 5 (a1)), some (k_i (x2)), some (k_i (x3)), some (k_i ((x4 + 1))), none]) (k_le_ok ⟨rfl, ⟨rfl, ⟨rfl, ⟨rfl, ⟨rfl, trivial⟩⟩⟩⟩⟩) (ih (x2) (x3) ((x4 + 1)) _ hoc kk)
          · replace hoc := (if_neg c13).symm.trans hoc
            refine r_iload h dX7_ruleFor_66 rfl ?_
            refine r_istore_n (L' := [some (k_p 0 (i0)), some (k_p 5 (a1)), some (k_i (x4)), some (k_i (x3)), some (k_i (x4)), some (k_p 2 (j5))]) h dX7_ruleFor_68 (by decide) rfl ?_
            refine r_aload h dX7_ruleFor_69 rfl ?_
            refine r_getI h kf_X7_325 dX7_ruleFor_71 rfl rfl (by decide) rfl ?_
            refine r_istore_n (L' := [some (k_p 0 (i0)), some (k_p 5 (a1)), some (k_i (x4)), some (k_i (k_I σ 2 (j5) (2))), some (k_i (x4)), some (k_p 2 (j5))]) h dX7_ruleFor_74 (by decide) rfl ?_
            refine r_iinc (v := (x4 + 1)) (L' := [some (k_p 0 (i0)), some (k_p 5 (a1)), some (k_i (x4)), some (k_i (k_I σ 2 (j5) (2))), some (k_i ((x4 + 1))), some (k_p 2 (j5))]) h dX7_ruleFor_75 rfl rfl (by decide) rfl ?_
            refine r_goto (tgt := 7) h dX7_ruleFor_78 (by decide) ?_
            exact r_forget (L' := [some (k_p 0 (i0)), some (k_p 5 (a1)), some (k_i (x4)), some (k_i (k_I σ 2 (j5) (2))), some (k_i ((x4 + 1))), none]) (k_le_ok ⟨rfl, ⟨rfl, ⟨rfl, ⟨rfl, ⟨rfl, trivial⟩⟩⟩⟩⟩) (ih (x4) (k_I σ 2 (j5) (2)) ((x4 + 1)) _ hoc kk)
def f_X7_ruleFor (σ : k_S) (i0 : Nat) (a1 : Nat) : Option Int32 :=
  ((f_X7_ruleFor_l1 200 i0 a1 σ (-1) (-1) (0)).bind fun v14 => some (v14.1))
theorem j_X7_ruleFor (la : Launch) (hla : la.flags = flags0) (G : k_G) (σ : k_S) (i0 : Nat) (a1 : Nat) (x : Int32) (hoc : f_X7_ruleFor σ i0 a1 = some x) : k_Ct la G yX7_ruleFor (k_ws yX7_ruleFor cX7_ruleFor 6 (Option.some ClassFile.FieldType.int)) { frames := 3, cells := 0, slots := 0, locals := 71 } [k_p 0 (i0), k_p 5 (a1)] σ (.inl (k_mI x, σ)) 0 0 := by
  refine k_body hla (by decide +kernel) (k_wl rfl) (Nat.le_of_ble_eq_true rfl) (fun X h hEn hMe => ?_)
  show k_W X σ 0 0 0 [some (k_p 0 (i0)), some (k_p 5 (a1)), none, none, none, none] []
  unfold f_X7_ruleFor at hoc
  refine r_iconst (v := -1) h dX7_ruleFor_0 (by decide) ?_
  refine r_istore_n (L' := [some (k_p 0 (i0)), some (k_p 5 (a1)), some (k_i (-1)), none, none, none]) h dX7_ruleFor_1 (by decide) rfl ?_
  refine r_iconst (v := -1) h dX7_ruleFor_2 (by decide) ?_
  refine r_istore_n (L' := [some (k_p 0 (i0)), some (k_p 5 (a1)), some (k_i (-1)), some (k_i (-1)), none, none]) h dX7_ruleFor_3 (by decide) rfl ?_
  refine r_iconst (v := 0) h dX7_ruleFor_4 (by decide) ?_
  refine r_istore (L' := [some (k_p 0 (i0)), some (k_p 5 (a1)), some (k_i (-1)), some (k_i (-1)), some (k_i (0)), none]) h dX7_ruleFor_5 (by decide) rfl ?_
  obtain ⟨v14, q15, hoc⟩ := k_ob hoc
  refine j_X7_ruleFor_l1 la hla G X σ σ h hMe i0 a1 200 (-1) (-1) (0) _ q15 ?_
  refine r_iload_n h dX7_ruleFor_81 rfl ?_
  cases hoc
  exact r_ireturn h hEn dX7_ruleFor_82 rfl rfl rfl (by decide) (by decide)
def f_X7_applying (σ : k_S) (i0 : Nat) (a1 : Int32) : Option (Int32 ⊕ String) :=
  (k_bt (f_X7_reportAt σ (i0) (a1)) fun v1 => ((f_X7_ruleFor σ (i0) (v1)).bind fun v3 => (if v3 = (-1 : Int32) then some (.inr "java/util/NoSuchElementException") else some (.inl (v3)))))
theorem j_X7_applying (la : Launch) (hla : la.flags = flags0) (G : k_G) (σ : k_S) (i0 : Nat) (a1 : Int32) (x : (Int32 ⊕ String)) (hoc : f_X7_applying σ i0 a1 = some x) : k_Ct la G yX7_applying (k_ws yX7_applying cX7_applying 3 (Option.some ClassFile.FieldType.int)) { frames := 8, cells := 2, slots := 12, locals := 124 } [k_p 0 (i0), k_i (a1)] σ (k_tc k_mI σ x) 2 12 := by
  refine k_body hla (by decide +kernel) (k_wl rfl) (Nat.le_of_ble_eq_true rfl) (fun X h hEn hMe => ?_)
  show k_W X σ 0 0 0 [some (k_p 0 (i0)), some (k_i (a1)), none] []
  unfold f_X7_applying at hoc
  refine r_aload_n h dX7_applying_0 rfl ?_
  refine r_aload_n h dX7_applying_1 rfl ?_
  refine r_iload_n h dX7_applying_2 rfl ?_
  rcases k_bt_ex hoc with ⟨v1, q2, hoc⟩ | ⟨e6, q2, hoc⟩
  · refine r_callV h hMe (rest := [k_p 0 (i0)]) (as := [k_i (a1)]) (oc := .inl ((k_mR 5) v1, σ)) (j_X7_reportAt la hla G _ (i0) (a1) _ q2) kl_X7_104 dX7_applying_3 rfl rfl rfl rfl rfl ⟨rfl, rfl, Nat.le_of_ble_eq_true rfl, Nat.le_of_ble_eq_true rfl, Nat.le_of_ble_eq_true rfl, Nat.le_of_ble_eq_true rfl, Nat.le_of_ble_eq_true rfl⟩ (fun E q => by cases q) (fun r s q => ?_)
    cases q
    show k_W X _ _ _ _ _ ([k_p 5 (v1), k_p 0 (i0)])
    obtain ⟨v3, q4, hoc⟩ := k_ob hoc
    refine r_callV h hMe (rest := []) (as := [k_p 5 (v1)]) (oc := .inl (k_mI v3, σ)) (j_X7_ruleFor la hla G _ (i0) (v1) _ q4) kl_X7_108 dX7_applying_6 rfl rfl rfl rfl rfl ⟨rfl, rfl, Nat.le_of_ble_eq_true rfl, Nat.le_of_ble_eq_true rfl, Nat.le_of_ble_eq_true rfl, Nat.le_of_ble_eq_true rfl, Nat.le_of_ble_eq_true rfl⟩ (fun E q => by cases q) (fun r s q => ?_)
    cases q
    show k_W X _ _ _ _ _ ([k_i (v3)])
    refine r_istore_n (L' := [some (k_p 0 (i0)), some (k_i (a1)), some (k_i (v3))]) h dX7_applying_9 (by decide) rfl ?_
    refine r_iload_n h dX7_applying_10 rfl ?_
    refine r_iconst (v := -1) h dX7_applying_11 (by decide) ?_
    refine r_icmp_ne (tgt := 25) h dX7_applying_12 (by decide) (fun c5 => ?_) (fun c5 => ?_)
    · replace hoc := (if_neg c5).symm.trans hoc
      refine r_iload_n h dX7_applying_25 rfl ?_
      cases hoc
      exact r_ireturn h hEn dX7_applying_26 rfl rfl rfl (by decide) (by decide)
    · replace hoc := (if_pos c5).symm.trans hoc
      cases hoc
      exact r_throwN h hEn hMe kt_X7_112_114 dX7_applying_15 dX7_applying_18 dX7_applying_19 dX7_applying_21 dX7_applying_24 rfl (by decide) (by decide) (by decide)
  · refine r_callV h hMe (rest := [k_p 0 (i0)]) (as := [k_i (a1)]) (oc := .inr e6) (j_X7_reportAt la hla G _ (i0) (a1) _ q2) kl_X7_104 dX7_applying_3 rfl rfl rfl rfl rfl ⟨rfl, rfl, Nat.le_of_ble_eq_true rfl, Nat.le_of_ble_eq_true rfl, Nat.le_of_ble_eq_true rfl, Nat.le_of_ble_eq_true rfl, Nat.le_of_ble_eq_true rfl⟩ (fun E q => ?_) (fun r s q => by cases q)
    cases q
    cases hoc
    exact k_T.out h hEn hMe rfl (by decide) (by decide)
def f_X7_areInConflict (σ : k_S) (a1 : Nat) (a2 : Nat) (a3 : Int32) : Option Int32 :=
  ((f_X3_holdsOn σ (a1) (a3)).bind fun v1 => (if v1 = 0 then some (0) else ((f_X3_holdsOn σ (a2) (a3)).bind fun v4 => (if v4 = 0 then some (0) else (if k_I σ 2 (a1) (0) = k_I σ 2 (a2) (0) then (if k_I σ 2 (a1) (2) = k_I σ 2 (a2) (2) then (if k_I σ 2 (a1) (1) = k_I σ 2 (a2) (1) then some (0) else some (1)) else some (0)) else some (0))))))
theorem j_X7_areInConflict (la : Launch) (hla : la.flags = flags0) (G : k_G) (σ : k_S) (a1 : Nat) (a2 : Nat) (a3 : Int32) (x : Int32) (hoc : f_X7_areInConflict σ a1 a2 a3 = some x) : k_Ct la G yX7_areInConflict (k_ws yX7_areInConflict cX7_areInConflict 3 (Option.some ClassFile.FieldType.boolean)) { frames := 1, cells := 0, slots := 0, locals := 22 } [k_p 2 (a1), k_p 2 (a2), k_i (a3)] σ (.inl (k_mI x, σ)) 0 0 := by
  refine k_body hla (by decide +kernel) (k_wl rfl) (Nat.le_of_ble_eq_true rfl) (fun X h hEn hMe => ?_)
  show k_W X σ 0 0 0 [some (k_p 2 (a1)), some (k_p 2 (a2)), some (k_i (a3))] []
  unfold f_X7_areInConflict at hoc
  refine r_aload_n h dX7_areInConflict_0 rfl ?_
  refine r_iload_n h dX7_areInConflict_1 rfl ?_
  obtain ⟨v1, q2, hoc⟩ := k_ob hoc
  refine r_callV h hMe (rest := []) (as := [k_i (a3)]) (oc := .inl (k_mI v1, σ)) (j_X3_holdsOn la hla G _ (a1) (a3) _ q2) kl_X7_100 dX7_areInConflict_2 rfl rfl rfl rfl rfl ⟨rfl, rfl, Nat.le_of_ble_eq_true rfl, Nat.le_of_ble_eq_true rfl, Nat.le_of_ble_eq_true rfl, Nat.le_of_ble_eq_true rfl, Nat.le_of_ble_eq_true rfl⟩ (fun E q => by cases q) (fun r s q => ?_)
  cases q
  show k_W X _ _ _ _ _ ([k_i (v1)])
  refine r_if_eq (tgt := 53) h dX7_areInConflict_5 (by decide) (fun c3 => ?_) (fun c3 => ?_)
  · replace hoc := (if_pos c3).symm.trans hoc
    refine r_iconst (v := 0) h dX7_areInConflict_53 (by decide) ?_
    cases hoc
    exact r_ireturn h hEn dX7_areInConflict_54 rfl (by decide) rfl (by decide) (by decide)
  · replace hoc := (if_neg c3).symm.trans hoc
    refine r_aload_n h dX7_areInConflict_8 rfl ?_
    refine r_iload_n h dX7_areInConflict_9 rfl ?_
    obtain ⟨v4, q5, hoc⟩ := k_ob hoc
    refine r_callV h hMe (rest := []) (as := [k_i (a3)]) (oc := .inl (k_mI v4, σ)) (j_X3_holdsOn la hla G _ (a2) (a3) _ q5) kl_X7_100 dX7_areInConflict_10 rfl rfl rfl rfl rfl ⟨rfl, rfl, Nat.le_of_ble_eq_true rfl, Nat.le_of_ble_eq_true rfl, Nat.le_of_ble_eq_true rfl, Nat.le_of_ble_eq_true rfl, Nat.le_of_ble_eq_true rfl⟩ (fun E q => by cases q) (fun r s q => ?_)
    cases q
    show k_W X _ _ _ _ _ ([k_i (v4)])
    refine r_if_eq (tgt := 53) h dX7_areInConflict_13 (by decide) (fun c6 => ?_) (fun c6 => ?_)
    · replace hoc := (if_pos c6).symm.trans hoc
      refine r_iconst (v := 0) h dX7_areInConflict_53 (by decide) ?_
      cases hoc
      exact r_ireturn h hEn dX7_areInConflict_54 rfl (by decide) rfl (by decide) (by decide)
    · replace hoc := (if_neg c6).symm.trans hoc
      refine r_aload_n h dX7_areInConflict_16 rfl ?_
      refine r_getI h kf_X7_322 dX7_areInConflict_17 rfl rfl (by decide) rfl ?_
      refine r_aload_n h dX7_areInConflict_20 rfl ?_
      refine r_getI h kf_X7_322 dX7_areInConflict_21 rfl rfl (by decide) rfl ?_
      refine r_icmp_ne (tgt := 53) h dX7_areInConflict_24 (by decide) (fun c7 => ?_) (fun c7 => ?_)
      · replace hoc := (if_neg c7).symm.trans hoc
        refine r_iconst (v := 0) h dX7_areInConflict_53 (by decide) ?_
        cases hoc
        exact r_ireturn h hEn dX7_areInConflict_54 rfl (by decide) rfl (by decide) (by decide)
      · replace hoc := (if_pos c7).symm.trans hoc
        refine r_aload_n h dX7_areInConflict_27 rfl ?_
        refine r_getI h kf_X7_325 dX7_areInConflict_28 rfl rfl (by decide) rfl ?_
        refine r_aload_n h dX7_areInConflict_31 rfl ?_
        refine r_getI h kf_X7_325 dX7_areInConflict_32 rfl rfl (by decide) rfl ?_
        refine r_icmp_ne (tgt := 53) h dX7_areInConflict_35 (by decide) (fun c8 => ?_) (fun c8 => ?_)
        · replace hoc := (if_neg c8).symm.trans hoc
          refine r_iconst (v := 0) h dX7_areInConflict_53 (by decide) ?_
          cases hoc
          exact r_ireturn h hEn dX7_areInConflict_54 rfl (by decide) rfl (by decide) (by decide)
        · replace hoc := (if_pos c8).symm.trans hoc
          refine r_aload_n h dX7_areInConflict_38 rfl ?_
          refine r_getI h kf_X7_328 dX7_areInConflict_39 rfl rfl (by decide) rfl ?_
          refine r_aload_n h dX7_areInConflict_42 rfl ?_
          refine r_getI h kf_X7_328 dX7_areInConflict_43 rfl rfl (by decide) rfl ?_
          refine r_icmp_eq (tgt := 53) h dX7_areInConflict_46 (by decide) (fun c9 => ?_) (fun c9 => ?_)
          · replace hoc := (if_pos c9).symm.trans hoc
            refine r_iconst (v := 0) h dX7_areInConflict_53 (by decide) ?_
            cases hoc
            exact r_ireturn h hEn dX7_areInConflict_54 rfl (by decide) rfl (by decide) (by decide)
          · replace hoc := (if_neg c9).symm.trans hoc
            refine r_iconst (v := 1) h dX7_areInConflict_49 (by decide) ?_
            refine r_goto (tgt := 54) h dX7_areInConflict_50 (by decide) ?_
            cases hoc
            exact r_ireturn h hEn dX7_areInConflict_54 rfl (by decide) rfl (by decide) (by decide)
def f_X7_conflicts_l2 (t : Nat) (i0 : Nat) (a1 : Int32) (b3 : Int32) (σ : k_S) (x2 : Int32) (x4 : Int32) : Option (Int32 × Int32) := match t with
  | 0 => none
  | t + 1 => (if b3 ≤ x4 then some ((x2, x4)) else (if k_P σ 0 (i0) (0) = some 0 then (if 0 ≤ b3 ∧ (b3 : Int32).toNatClampNeg < k_Z σ 12 ∧ k_Z σ 12 ≤ 200 then ((k_P σ 12 (0) ((b3 : Int32).toNatClampNeg)).bind fun j10 => (if 0 ≤ x4 ∧ (x4 : Int32).toNatClampNeg < k_Z σ 12 ∧ k_Z σ 12 ≤ 200 then ((k_P σ 12 (0) ((x4 : Int32).toNatClampNeg)).bind fun j13 => ((f_X7_areInConflict σ (j10) (j13) (a1)).bind fun v15 => (if v15 = 0 then f_X7_conflicts_l2 t i0 a1 b3 σ (x2) ((x4 + 1)) else f_X7_conflicts_l2 t i0 a1 b3 σ ((x2 + 1)) ((x4 + 1))))) else none)) else none) else none))
theorem j_X7_conflicts_l2 (la : Launch) (hla : la.flags = flags0) (G : k_G) (X : k_X) (σ0 σ : k_S) (h : k_Ok X RX7 cX7_conflicts 5) (hMe : k_Me X la G σ0 { frames := 7, cells := 1, slots := 6, locals := 104 } "conflicts") (i0 : Nat) (a1 : Int32) (b3 : Int32) : ∀ (t : Nat) (x2 : Int32) (x4 : Int32) (e : (Int32 × Int32)), f_X7_conflicts_l2 t i0 a1 b3 σ x2 x4 = some e → k_W X σ 1 6 71 [some (k_p 0 (i0)), some (k_i (a1)), some (k_i (e.1)), some (k_i (b3)), some (k_i (e.2))] [] → k_W X σ 1 6 26 [some (k_p 0 (i0)), some (k_i (a1)), some (k_i (x2)), some (k_i (b3)), some (k_i (x4))] [] := by
  intro t
  induction t with
  | zero =>
    intro x2 x4 e hoc kk
    cases hoc
  | succ t ih =>
    intro x2 x4 e hoc kk
    rw [f_X7_conflicts_l2] at hoc
    refine r_iload h dX7_conflicts_26 rfl ?_
    refine r_iload_n h dX7_conflicts_28 rfl ?_
    refine r_icmp_ge (tgt := 71) h dX7_conflicts_29 (by decide) (fun c6 => ?_) (fun c6 => ?_)
    · replace hoc := (if_pos c6).symm.trans hoc
      cases hoc
      exact kk
    · replace hoc := (if_neg c6).symm.trans hoc
      refine r_aload_n h dX7_conflicts_32 rfl ?_
      obtain ⟨q8, hoc⟩ := k_gd hoc
      refine r_getR h kf_X7_10 dX7_conflicts_33 rfl rfl (by decide) rfl (Eq.trans rfl q8) ?_
      refine r_iload_n h dX7_conflicts_36 rfl ?_
      obtain ⟨c9, hoc⟩ := k_gd hoc
      obtain ⟨j10, q11, hoc⟩ := k_ob hoc
      refine r_lget h hla hMe (rest := []) c9 (Eq.trans rfl q11) rfl kl_X7_117 dX7_conflicts_37 ⟨Nat.le_of_ble_eq_true rfl, Nat.le_of_ble_eq_true rfl, Nat.le_of_ble_eq_true rfl, Nat.le_of_ble_eq_true rfl, Nat.le_of_ble_eq_true rfl⟩ ?_
      refine r_cast1 h dX7_conflicts_40 wd_183 rfl rfl rfl ?_
      refine r_aload_n h dX7_conflicts_43 rfl ?_
      refine r_getR h kf_X7_10 dX7_conflicts_44 rfl rfl (by decide) rfl (Eq.trans rfl q8) ?_
      refine r_iload h dX7_conflicts_47 rfl ?_
      obtain ⟨c12, hoc⟩ := k_gd hoc
      obtain ⟨j13, q14, hoc⟩ := k_ob hoc
      refine r_lget h hla hMe (rest := [k_p 2 (j10)]) c12 (Eq.trans rfl q14) rfl kl_X7_117 dX7_conflicts_49 ⟨Nat.le_of_ble_eq_true rfl, Nat.le_of_ble_eq_true rfl, Nat.le_of_ble_eq_true rfl, Nat.le_of_ble_eq_true rfl, Nat.le_of_ble_eq_true rfl⟩ ?_
      refine r_cast1 h dX7_conflicts_52 wd_183 rfl rfl rfl ?_
      refine r_iload_n h dX7_conflicts_55 rfl ?_
      obtain ⟨v15, q16, hoc⟩ := k_ob hoc
      refine r_callS h hMe (rest := []) (as := [k_p 2 (j10), k_p 2 (j13), k_i (a1)]) (oc := .inl (k_mI v15, σ)) (j_X7_areInConflict la hla G _ (j10) (j13) (a1) _ q16) kl_X7_121 dX7_conflicts_56 rfl rfl  ⟨rfl, rfl, Nat.le_of_ble_eq_true rfl, Nat.le_of_ble_eq_true rfl, Nat.le_of_ble_eq_true rfl, Nat.le_of_ble_eq_true rfl, Nat.le_of_ble_eq_true rfl⟩ (fun E q => by cases q) (fun r s q => ?_)
      cases q
      show k_W X _ _ _ _ _ ([k_i (v15)])
      refine r_if_eq (tgt := 65) h dX7_conflicts_59 (by decide) (fun c17 => ?_) (fun c17 => ?_)
      · replace hoc := (if_pos c17).symm.trans hoc
        refine r_iinc (v := (x4 + 1)) (L' := [some (k_p 0 (i0)), some (k_i (a1)), some (k_i (x2)), some (k_i (b3)), some (k_i ((x4 + 1)))]) h dX7_conflicts_65 rfl rfl (by decide) rfl ?_
        refine r_goto (tgt := 26) h dX7_conflicts_68 (by decide) ?_
        exact r_forget (L' := [some (k_p 0 (i0)), some (k_i (a1)), some (k_i (x2)), some (k_i (b3)), some (k_i ((x4 + 1)))]) (k_le_ok ⟨rfl, ⟨rfl, ⟨rfl, ⟨rfl, ⟨rfl, trivial⟩⟩⟩⟩⟩) (ih (x2) ((x4 + 1)) _ hoc kk)
      · replace hoc := (if_neg c17).symm.trans hoc
        refine r_iinc (v := (x2 + 1)) (L' := [some (k_p 0 (i0)), some (k_i (a1)), some (k_i ((x2 + 1))), some (k_i (b3)), some (k_i (x4))]) h dX7_conflicts_62 rfl rfl (by decide) rfl ?_
        refine r_iinc (v := (x4 + 1)) (L' := [some (k_p 0 (i0)), some (k_i (a1)), some (k_i ((x2 + 1))), some (k_i (b3)), some (k_i ((x4 + 1)))]) h dX7_conflicts_65 rfl rfl (by decide) rfl ?_
        refine r_goto (tgt := 26) h dX7_conflicts_68 (by decide) ?_
        exact r_forget (L' := [some (k_p 0 (i0)), some (k_i (a1)), some (k_i ((x2 + 1))), some (k_i (b3)), some (k_i ((x4 + 1)))]) (k_le_ok ⟨rfl, ⟨rfl, ⟨rfl, ⟨rfl, ⟨rfl, trivial⟩⟩⟩⟩⟩) (ih ((x2 + 1)) ((x4 + 1)) _ hoc kk)
def f_X7_conflicts_l1 (t : Nat) (i0 : Nat) (a1 : Int32) (σ : k_S) (x2 : Int32) (x3 : Int32) : Option (Int32 × Int32) := match t with
  | 0 => none
  | t + 1 => (if k_P σ 0 (i0) (0) = some 0 then (if (nI (k_Z σ 12)) ≤ x3 then some ((x2, x3)) else ((f_X7_conflicts_l2 200 i0 a1 (x3) σ (x2) (0)).bind fun v18 => f_X7_conflicts_l1 t i0 a1 σ (v18.1) ((x3 + 1)))) else none)
theorem j_X7_conflicts_l1 (la : Launch) (hla : la.flags = flags0) (G : k_G) (X : k_X) (σ0 σ : k_S) (h : k_Ok X RX7 cX7_conflicts 5) (hMe : k_Me X la G σ0 { frames := 7, cells := 1, slots := 6, locals := 104 } "conflicts") (i0 : Nat) (a1 : Int32) : ∀ (t : Nat) (x2 : Int32) (x3 : Int32) (e : (Int32 × Int32)), f_X7_conflicts_l1 t i0 a1 σ x2 x3 = some e → k_W X σ 1 6 77 [some (k_p 0 (i0)), some (k_i (a1)), some (k_i (e.1)), some (k_i (e.2)), none] [] → k_W X σ 1 6 12 [some (k_p 0 (i0)), some (k_i (a1)), some (k_i (x2)), some (k_i (x3)), none] [] := by
  intro t
  induction t with
  | zero =>
    intro x2 x3 e hoc kk
    cases hoc
  | succ t ih =>
    intro x2 x3 e hoc kk
    rw [f_X7_conflicts_l1] at hoc
    refine r_iload_n h dX7_conflicts_12 rfl ?_
    refine r_aload_n h dX7_conflicts_13 rfl ?_
    obtain ⟨q4, hoc⟩ := k_gd hoc
    refine r_getR h kf_X7_10 dX7_conflicts_14 rfl rfl (by decide) rfl (Eq.trans rfl q4) ?_
    refine r_callL h hMe (rest := [k_i (x3)]) (as := []) (j_size la hla G _ 12 rfl) kl_X7_52 dX7_conflicts_17 rfl rfl rfl rfl ⟨rfl, rfl, Nat.le_of_ble_eq_true rfl, Nat.le_of_ble_eq_true rfl, Nat.le_of_ble_eq_true rfl, Nat.le_of_ble_eq_true rfl, Nat.le_of_ble_eq_true rfl⟩ (fun E q => by cases q) (fun r s q => ?_)
    cases q
    refine r_icmp_ge (tgt := 77) h dX7_conflicts_20 (by decide) (fun c5 => ?_) (fun c5 => ?_)
    · replace hoc := (if_pos c5).symm.trans hoc
      cases hoc
      exact kk
    · replace hoc := (if_neg c5).symm.trans hoc
      refine r_iconst (v := 0) h dX7_conflicts_23 (by decide) ?_
      refine r_istore (L' := [some (k_p 0 (i0)), some (k_i (a1)), some (k_i (x2)), some (k_i (x3)), some (k_i (0))]) h dX7_conflicts_24 (by decide) rfl ?_
      obtain ⟨v18, q19, hoc⟩ := k_ob hoc
      refine j_X7_conflicts_l2 la hla G X σ0 σ h hMe i0 a1 (x3) 200 (x2) (0) _ q19 ?_
      refine r_iinc (v := (x3 + 1)) (L' := [some (k_p 0 (i0)), some (k_i (a1)), some (k_i (v18.1)), some (k_i ((x3 + 1))), some (k_i (v18.2))]) h dX7_conflicts_71 rfl rfl (by decide) rfl ?_
      refine r_goto (tgt := 12) h dX7_conflicts_74 (by decide) ?_
      exact r_forget (L' := [some (k_p 0 (i0)), some (k_i (a1)), some (k_i (v18.1)), some (k_i ((x3 + 1))), none]) (k_le_ok ⟨rfl, ⟨rfl, ⟨rfl, ⟨rfl, trivial⟩⟩⟩⟩) (ih (v18.1) ((x3 + 1)) _ hoc kk)
def f_X7_conflicts (σ : k_S) (i0 : Nat) (a1 : Int32) : Option (Int32 ⊕ String) :=
  (k_bt (f_X7_requireWithin σ (a1) (0) (1000)) fun v1 => ((f_X7_conflicts_l1 200 i0 a1 σ (0) (0)).bind fun v20 => some (.inl (v20.1))))
theorem j_X7_conflicts (la : Launch) (hla : la.flags = flags0) (G : k_G) (σ : k_S) (i0 : Nat) (a1 : Int32) (x : (Int32 ⊕ String)) (hoc : f_X7_conflicts σ i0 a1 = some x) : k_Ct la G yX7_conflicts (k_ws yX7_conflicts cX7_conflicts 5 (Option.some ClassFile.FieldType.int)) { frames := 7, cells := 1, slots := 6, locals := 104 } [k_p 0 (i0), k_i (a1)] σ (k_tc k_mI σ x) 1 6 := by
  refine k_body hla (by decide +kernel) (k_wl rfl) (Nat.le_of_ble_eq_true rfl) (fun X h hEn hMe => ?_)
  show k_W X σ 0 0 0 [some (k_p 0 (i0)), some (k_i (a1)), none, none, none] []
  unfold f_X7_conflicts at hoc
  refine r_iload_n h dX7_conflicts_0 rfl ?_
  refine r_iconst (v := 0) h dX7_conflicts_1 (by decide) ?_
  refine r_sipush (v := 1000) h dX7_conflicts_2 (by decide) ?_
  rcases k_bt_ex hoc with ⟨v1, q2, hoc⟩ | ⟨e22, q2, hoc⟩
  · refine r_callS h hMe (rest := []) (as := [k_i (a1), k_i (0), k_i (1000)]) (oc := .inl (k_mU v1, σ)) (j_X7_requireWithin la hla G _ (a1) (0) (1000) _ q2) kl_X7_48 dX7_conflicts_5 rfl rfl  ⟨rfl, rfl, Nat.le_of_ble_eq_true rfl, Nat.le_of_ble_eq_true rfl, Nat.le_of_ble_eq_true rfl, Nat.le_of_ble_eq_true rfl, Nat.le_of_ble_eq_true rfl⟩ (fun E q => by cases q) (fun r s q => ?_)
    cases q
    show k_W X _ _ _ _ _ ([])
    refine r_iconst (v := 0) h dX7_conflicts_8 (by decide) ?_
    refine r_istore_n (L' := [some (k_p 0 (i0)), some (k_i (a1)), some (k_i (0)), none, none]) h dX7_conflicts_9 (by decide) rfl ?_
    refine r_iconst (v := 0) h dX7_conflicts_10 (by decide) ?_
    refine r_istore_n (L' := [some (k_p 0 (i0)), some (k_i (a1)), some (k_i (0)), some (k_i (0)), none]) h dX7_conflicts_11 (by decide) rfl ?_
    obtain ⟨v20, q21, hoc⟩ := k_ob hoc
    refine j_X7_conflicts_l1 la hla G X σ σ h hMe i0 a1 200 (0) (0) _ q21 ?_
    refine r_iload_n h dX7_conflicts_77 rfl ?_
    cases hoc
    exact r_ireturn h hEn dX7_conflicts_78 rfl rfl rfl (by decide) (by decide)
  · refine r_callS h hMe (rest := []) (as := [k_i (a1), k_i (0), k_i (1000)]) (oc := .inr e22) (j_X7_requireWithin la hla G _ (a1) (0) (1000) _ q2) kl_X7_48 dX7_conflicts_5 rfl rfl  ⟨rfl, rfl, Nat.le_of_ble_eq_true rfl, Nat.le_of_ble_eq_true rfl, Nat.le_of_ble_eq_true rfl, Nat.le_of_ble_eq_true rfl, Nat.le_of_ble_eq_true rfl⟩ (fun E q => ?_) (fun r s q => by cases q)
    cases q
    cases hoc
    exact k_T.out h hEn hMe rfl (by decide) (by decide)
