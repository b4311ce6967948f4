/-! ===== walks 3 (written by wip/whole/gen_walk.py, emit_walk.py) ===== -/
def f_X7_addUser (σ : k_S) (i0 : Nat) (a1 : Int32) : Option ((Int32 × k_S) ⊕ String) :=
  (k_bt (f_X7_requireWithin σ (a1) (1) (9)) fun v1 => (if k_P σ 0 (i0) (1) = some 0 then (k_bt (f_X7_requireRoom σ ((nI (k_Z σ 13))) (8)) fun v5 => ((f_X6_init (k_new σ 3) (k_N σ 3) (a1)).bind fun v7 => (if k_Z v7.2 13 ≤ 200 then (if k_P v7.2 0 (i0) (1) = some 0 then some (.inl (((nI (k_Z (k_ladd v7.2 13 (k_N σ 3)) 13)) - 1), (k_ladd v7.2 13 (k_N σ 3)))) else none) else none))) else none))
theorem j_X7_addUser (la : Launch) (hla : la.flags = flags0) (G : k_G) (σ : k_S) (i0 : Nat) (a1 : Int32) (x : ((Int32 × k_S) ⊕ String)) (hoc : f_X7_addUser σ i0 a1 = some x) : k_Ct la G yX7_addUser (k_ws yX7_addUser cX7_addUser 2 (Option.some ClassFile.FieldType.int)) { frames := 7, cells := 4, slots := 313, locals := 231 } [k_p 0 (i0), k_i (a1)] σ (k_mc k_mI x) 4 313 := by
  refine k_body hla (by decide +kernel) (k_wl rfl) (Nat.le_of_ble_eq_true rfl) (fun X h hEn hMe => ?_)
  show k_W X σ 0 0 0 [some (k_p 0 (i0)), some (k_i (a1))] []
  unfold f_X7_addUser at hoc
  refine r_iload_n h dX7_addUser_0 rfl ?_
  refine r_iconst (v := 1) h dX7_addUser_1 (by decide) ?_
  refine r_bipush (v := 9) h dX7_addUser_2 (by decide) ?_
  rcases k_bt_ex hoc with ⟨v1, q2, hoc⟩ | ⟨e13, q2, hoc⟩
  · refine r_callS h hMe (rest := []) (as := [k_i (a1), k_i (1), k_i (9)]) (oc := .inl (k_mU v1, σ)) (j_X7_requireWithin la hla G _ (a1) (1) (9) _ q2) kl_X7_48 dX7_addUser_4 rfl rfl  ⟨rfl, rfl, Nat.le_of_ble_eq_true rfl, Nat.le_of_ble_eq_true rfl, Nat.le_of_ble_eq_true rfl, Nat.le_of_ble_eq_true rfl, Nat.le_of_ble_eq_true rfl⟩ (fun E q => by cases q) (fun r s q => ?_)
    cases q
    show k_W X _ _ _ _ _ ([])
    refine r_aload_n h dX7_addUser_7 rfl ?_
    obtain ⟨q4, hoc⟩ := k_gd hoc
    refine r_getR h kf_X7_16 dX7_addUser_8 rfl rfl (by decide) rfl (Eq.trans rfl q4) ?_
    refine r_callL h hMe (rest := []) (as := []) (j_size la hla G _ 13 rfl) kl_X7_52 dX7_addUser_11 rfl rfl rfl rfl ⟨rfl, rfl, Nat.le_of_ble_eq_true rfl, Nat.le_of_ble_eq_true rfl, Nat.le_of_ble_eq_true rfl, Nat.le_of_ble_eq_true rfl, Nat.le_of_ble_eq_true rfl⟩ (fun E q => by cases q) (fun r s q => ?_)
    cases q
    refine r_bipush (v := 8) h dX7_addUser_14 (by decide) ?_
    rcases k_bt_ex hoc with ⟨v5, q6, hoc⟩ | ⟨e12, q6, hoc⟩
    · refine r_callS h hMe (rest := []) (as := [k_i ((nI (k_Z σ 13))), k_i (8)]) (oc := .inl (k_mU v5, σ)) (j_X7_requireRoom la hla G _ ((nI (k_Z σ 13))) (8) _ q6) kl_X7_56 dX7_addUser_16 rfl rfl  ⟨rfl, rfl, Nat.le_of_ble_eq_true rfl, Nat.le_of_ble_eq_true rfl, Nat.le_of_ble_eq_true rfl, Nat.le_of_ble_eq_true rfl, Nat.le_of_ble_eq_true rfl⟩ (fun E q => by cases q) (fun r s q => ?_)
      cases q
      show k_W X _ _ _ _ _ ([])
      refine r_aload_n h dX7_addUser_19 rfl ?_
      refine r_getR h kf_X7_16 dX7_addUser_20 rfl rfl (by decide) rfl (Eq.trans rfl q4) ?_
      refine r_new h hMe 3 kn_X7_125 dX7_addUser_23 (by decide) ?_
      refine r_dup h dX7_addUser_26 rfl ?_
      refine r_iload_n h dX7_addUser_27 rfl ?_
      obtain ⟨v7, q8, hoc⟩ := k_ob hoc
      refine r_callI h hMe (rest := [k_p 3 (k_N σ 3), k_p 13 (0)]) (as := [k_i (a1)]) (oc := .inl (k_mU v7.1, v7.2)) (j_X6_init la hla G _ (k_N σ 3) (a1) _ q8) kl_X7_127 dX7_addUser_28 rfl rfl  ⟨rfl, rfl, Nat.le_of_ble_eq_true rfl, Nat.le_of_ble_eq_true rfl, Nat.le_of_ble_eq_true rfl, Nat.le_of_ble_eq_true rfl, Nat.le_of_ble_eq_true rfl⟩ (fun E q => by cases q) (fun r s q => ?_)
      cases q
      show k_W X _ _ _ _ _ ([k_p 3 (k_N σ 3), k_p 13 (0)])
      obtain ⟨c9, hoc⟩ := k_gd hoc
      refine r_callL h hMe (rest := []) (as := [k_p 3 (k_N σ 3)]) (j_add la hla G _ 13 _ rfl (Nat.le_trans (Nat.le_of_eq rfl) c9)) kl_X7_65 dX7_addUser_31 rfl rfl rfl rfl ⟨rfl, rfl, Nat.le_of_ble_eq_true rfl, Nat.le_of_ble_eq_true rfl, Nat.le_of_ble_eq_true rfl, Nat.le_of_ble_eq_true rfl, Nat.le_of_ble_eq_true rfl⟩ (fun E q => by cases q) (fun r s q => ?_)
      cases q
      refine r_pop h dX7_addUser_34 rfl ?_
      refine r_aload_n h dX7_addUser_35 rfl ?_
      obtain ⟨q11, hoc⟩ := k_gd hoc
      refine r_getR h kf_X7_16 dX7_addUser_36 rfl rfl (by decide) rfl (Eq.trans (k_Pa (by decide)) q11) ?_
      refine r_callL h hMe (rest := []) (as := []) (j_size la hla G _ 13 rfl) kl_X7_52 dX7_addUser_39 rfl rfl rfl rfl ⟨rfl, rfl, Nat.le_of_ble_eq_true rfl, Nat.le_of_ble_eq_true rfl, Nat.le_of_ble_eq_true rfl, Nat.le_of_ble_eq_true rfl, Nat.le_of_ble_eq_true rfl⟩ (fun E q => by cases q) (fun r s q => ?_)
      cases q
      refine r_eqI (congrArg nI rfl) ?_
      refine r_iconst (v := 1) h dX7_addUser_42 (by decide) ?_
      refine r_isub h dX7_addUser_43 ?_
      cases hoc
      exact r_ireturn h hEn dX7_addUser_44 rfl rfl rfl (by decide) (by decide)
    · refine r_callS h hMe (rest := []) (as := [k_i ((nI (k_Z σ 13))), k_i (8)]) (oc := .inr e12) (j_X7_requireRoom la hla G _ ((nI (k_Z σ 13))) (8) _ q6) kl_X7_56 dX7_addUser_16 rfl rfl  ⟨rfl, rfl, Nat.le_of_ble_eq_true rfl, Nat.le_of_ble_eq_true rfl, Nat.le_of_ble_eq_true rfl, Nat.le_of_ble_eq_true rfl, Nat.le_of_ble_eq_true rfl⟩ (fun E q => ?_) (fun r s q => by cases q)
      cases q
      cases hoc
      exact k_T.out h hEn hMe rfl (by decide) (by decide)
  · refine r_callS h hMe (rest := []) (as := [k_i (a1), k_i (1), k_i (9)]) (oc := .inr e13) (j_X7_requireWithin la hla G _ (a1) (1) (9) _ q2) kl_X7_48 dX7_addUser_4 rfl rfl  ⟨rfl, rfl, Nat.le_of_ble_eq_true rfl, Nat.le_of_ble_eq_true rfl, Nat.le_of_ble_eq_true rfl, Nat.le_of_ble_eq_true rfl, Nat.le_of_ble_eq_true rfl⟩ (fun E q => ?_) (fun r s q => by cases q)
    cases q
    cases hoc
    exact k_T.out h hEn hMe rfl (by decide) (by decide)
def f_X7_userAt (σ : k_S) (i0 : Nat) (a1 : Int32) : Option (Nat ⊕ String) :=
  (if k_P σ 0 (i0) (1) = some 0 then (k_bt (f_X7_requireIndex σ (a1) ((nI (k_Z σ 13)))) fun v3 => (if 0 ≤ a1 ∧ (a1 : Int32).toNatClampNeg < k_Z σ 13 ∧ k_Z σ 13 ≤ 200 then ((k_P σ 13 (0) ((a1 : Int32).toNatClampNeg)).bind fun j6 => some (.inl (j6))) else none)) else none)
theorem j_X7_userAt (la : Launch) (hla : la.flags = flags0) (G : k_G) (σ : k_S) (i0 : Nat) (a1 : Int32) (x : (Nat ⊕ String)) (hoc : f_X7_userAt σ i0 a1 = some x) : k_Ct la G yX7_userAt (k_ws yX7_userAt cX7_userAt 2 (Option.some (ClassFile.FieldType.object "PrecedentHall$User"))) { frames := 7, cells := 1, slots := 6, locals := 103 } [k_p 0 (i0), k_i (a1)] σ (k_tc (k_mR 3) σ x) 1 6 := by
  refine k_body hla (by decide +kernel) (k_wl rfl) (Nat.le_of_ble_eq_true rfl) (fun X h hEn hMe => ?_)
  show k_W X σ 0 0 0 [some (k_p 0 (i0)), some (k_i (a1))] []
  unfold f_X7_userAt at hoc
  refine r_iload_n h dX7_userAt_0 rfl ?_
  refine r_aload_n h dX7_userAt_1 rfl ?_
  obtain ⟨q2, hoc⟩ := k_gd hoc
  refine r_getR h kf_X7_16 dX7_userAt_2 rfl rfl (by decide) rfl (Eq.trans rfl q2) ?_
  refine r_callL h hMe (rest := [k_i (a1)]) (as := []) (j_size la hla G _ 13 rfl) kl_X7_52 dX7_userAt_5 rfl rfl rfl rfl ⟨rfl, rfl, Nat.le_of_ble_eq_true rfl, Nat.le_of_ble_eq_true rfl, Nat.le_of_ble_eq_true rfl, Nat.le_of_ble_eq_true rfl, Nat.le_of_ble_eq_true rfl⟩ (fun E q => by cases q) (fun r s q => ?_)
  cases q
  rcases k_bt_ex hoc with ⟨v3, q4, hoc⟩ | ⟨e8, q4, hoc⟩
  · refine r_callS h hMe (rest := []) (as := [k_i (a1), k_i ((nI (k_Z σ 13)))]) (oc := .inl (k_mU v3, σ)) (j_X7_requireIndex la hla G _ (a1) ((nI (k_Z σ 13))) _ q4) kl_X7_157 dX7_userAt_8 rfl rfl  ⟨rfl, rfl, Nat.le_of_ble_eq_true rfl, Nat.le_of_ble_eq_true rfl, Nat.le_of_ble_eq_true rfl, Nat.le_of_ble_eq_true rfl, Nat.le_of_ble_eq_true rfl⟩ (fun E q => by cases q) (fun r s q => ?_)
    cases q
    show k_W X _ _ _ _ _ ([])
    refine r_aload_n h dX7_userAt_11 rfl ?_
    refine r_getR h kf_X7_16 dX7_userAt_12 rfl rfl (by decide) rfl (Eq.trans rfl q2) ?_
    refine r_iload_n h dX7_userAt_15 rfl ?_
    obtain ⟨c5, hoc⟩ := k_gd hoc
    obtain ⟨j6, q7, hoc⟩ := k_ob hoc
    refine r_lget h hla hMe (rest := []) c5 (Eq.trans rfl q7) rfl kl_X7_117 dX7_userAt_16 ⟨Nat.le_of_ble_eq_true rfl, Nat.le_of_ble_eq_true rfl, Nat.le_of_ble_eq_true rfl, Nat.le_of_ble_eq_true rfl, Nat.le_of_ble_eq_true rfl⟩ ?_
    refine r_cast1 h dX7_userAt_19 wd_532 rfl rfl rfl ?_
    cases hoc
    exact r_areturn h hEn dX7_userAt_22 rfl rfl (by decide) (by decide)
  · refine r_callS h hMe (rest := []) (as := [k_i (a1), k_i ((nI (k_Z σ 13)))]) (oc := .inr e8) (j_X7_requireIndex la hla G _ (a1) ((nI (k_Z σ 13))) _ q4) kl_X7_157 dX7_userAt_8 rfl rfl  ⟨rfl, rfl, Nat.le_of_ble_eq_true rfl, Nat.le_of_ble_eq_true rfl, Nat.le_of_ble_eq_true rfl, Nat.le_of_ble_eq_true rfl, Nat.le_of_ble_eq_true rfl⟩ (fun E q => ?_) (fun r s q => by cases q)
    cases q
    cases hoc
    exact k_T.out h hEn hMe rfl (by decide) (by decide)
def f_X7_setWeight (σ : k_S) (i0 : Nat) (a1 : Int32) (a2 : Int32) : Option ((Int32 × k_S) ⊕ String) :=
  (k_bt (f_X7_userAt σ (i0) (a1)) fun v1 => (k_bt (f_X7_requireWithin σ (a2) (1) (9)) fun v3 => some (.inl (k_I σ 3 (v1) (0), (k_uI σ 3 (v1) (0) (a2))))))
theorem j_X7_setWeight (la : Launch) (hla : la.flags = flags0) (G : k_G) (σ : k_S) (i0 : Nat) (a1 : Int32) (a2 : Int32) (x : ((Int32 × k_S) ⊕ String)) (hoc : f_X7_setWeight σ i0 a1 a2 = some x) : k_Ct la G yX7_setWeight (k_ws yX7_setWeight cX7_setWeight 5 (Option.some ClassFile.FieldType.int)) { frames := 8, cells := 2, slots := 12, locals := 124 } [k_p 0 (i0), k_i (a1), k_i (a2)] σ (k_mc k_mI x) 2 12 := by
  refine k_body hla (by decide +kernel) (k_wl rfl) (Nat.le_of_ble_eq_true rfl) (fun X h hEn hMe => ?_)
  show k_W X σ 0 0 0 [some (k_p 0 (i0)), some (k_i (a1)), some (k_i (a2)), none, none] []
  unfold f_X7_setWeight at hoc
  refine r_aload_n h dX7_setWeight_0 rfl ?_
  refine r_iload_n h dX7_setWeight_1 rfl ?_
  rcases k_bt_ex hoc with ⟨v1, q2, hoc⟩ | ⟨e6, q2, hoc⟩
  · refine r_callV h hMe (rest := []) (as := [k_i (a1)]) (oc := .inl ((k_mR 3) v1, σ)) (j_X7_userAt la hla G _ (i0) (a1) _ q2) kl_X7_130 dX7_setWeight_2 rfl rfl rfl rfl rfl ⟨rfl, rfl, Nat.le_of_ble_eq_true rfl, Nat.le_of_ble_eq_true rfl, Nat.le_of_ble_eq_true rfl, Nat.le_of_ble_eq_true rfl, Nat.le_of_ble_eq_true rfl⟩ (fun E q => by cases q) (fun r s q => ?_)
    cases q
    show k_W X _ _ _ _ _ ([k_p 3 (v1)])
    refine r_astore_n (L' := [some (k_p 0 (i0)), some (k_i (a1)), some (k_i (a2)), some (k_p 3 (v1)), none]) h dX7_setWeight_5 (by decide) rfl ?_
    refine r_iload_n h dX7_setWeight_6 rfl ?_
    refine r_iconst (v := 1) h dX7_setWeight_7 (by decide) ?_
    refine r_bipush (v := 9) h dX7_setWeight_8 (by decide) ?_
    rcases k_bt_ex hoc with ⟨v3, q4, hoc⟩ | ⟨e5, q4, hoc⟩
    · refine r_callS h hMe (rest := []) (as := [k_i (a2), k_i (1), k_i (9)]) (oc := .inl (k_mU v3, σ)) (j_X7_requireWithin la hla G _ (a2) (1) (9) _ q4) kl_X7_48 dX7_setWeight_10 rfl rfl  ⟨rfl, rfl, Nat.le_of_ble_eq_true rfl, Nat.le_of_ble_eq_true rfl, Nat.le_of_ble_eq_true rfl, Nat.le_of_ble_eq_true rfl, Nat.le_of_ble_eq_true rfl⟩ (fun E q => by cases q) (fun r s q => ?_)
      cases q
      show k_W X _ _ _ _ _ ([])
      refine r_aload_n h dX7_setWeight_13 rfl ?_
      refine r_getI h kf_X7_134 dX7_setWeight_14 rfl rfl (by decide) rfl ?_
      refine r_istore (L' := [some (k_p 0 (i0)), some (k_i (a1)), some (k_i (a2)), some (k_p 3 (v1)), some (k_i (k_I σ 3 (v1) (0)))]) h dX7_setWeight_17 (by decide) rfl ?_
      refine r_aload_n h dX7_setWeight_19 rfl ?_
      refine r_iload_n h dX7_setWeight_20 rfl ?_
      refine r_putI (x := a2) h kp_X7_134 dX7_setWeight_21 rfl rfl (by decide) rfl rfl (k_fit_int _) ?_
      refine r_iload h dX7_setWeight_24 rfl ?_
      cases hoc
      exact r_ireturn h hEn dX7_setWeight_26 rfl rfl rfl (by decide) (by decide)
    · refine r_callS h hMe (rest := []) (as := [k_i (a2), k_i (1), k_i (9)]) (oc := .inr e5) (j_X7_requireWithin la hla G _ (a2) (1) (9) _ q4) kl_X7_48 dX7_setWeight_10 rfl rfl  ⟨rfl, rfl, Nat.le_of_ble_eq_true rfl, Nat.le_of_ble_eq_true rfl, Nat.le_of_ble_eq_true rfl, Nat.le_of_ble_eq_true rfl, Nat.le_of_ble_eq_true rfl⟩ (fun E q => ?_) (fun r s q => by cases q)
      cases q
      cases hoc
      exact k_T.out h hEn hMe rfl (by decide) (by decide)
  · refine r_callV h hMe (rest := []) (as := [k_i (a1)]) (oc := .inr e6) (j_X7_userAt la hla G _ (i0) (a1) _ q2) kl_X7_130 dX7_setWeight_2 rfl rfl rfl rfl rfl ⟨rfl, rfl, Nat.le_of_ble_eq_true rfl, Nat.le_of_ble_eq_true rfl, Nat.le_of_ble_eq_true rfl, Nat.le_of_ble_eq_true rfl, Nat.le_of_ble_eq_true rfl⟩ (fun E q => ?_) (fun r s q => by cases q)
    cases q
    cases hoc
    exact k_T.out h hEn hMe rfl (by decide) (by decide)
def f_X7_presentSanctions_l1 (t : Nat) (i0 : Nat) (a1 : Nat) (σ : k_S) (x2 : Int32) (x3 : Int32) : Option (Int32 × Int32) := match t with
  | 0 => none
  | t + 1 => (if k_P σ 0 (i0) (4) = some 0 then (if (nI (k_Z σ 16)) ≤ x3 then some ((x2, x3)) else (if 0 ≤ x3 ∧ (x3 : Int32).toNatClampNeg < k_Z σ 16 ∧ k_Z σ 16 ≤ 200 then ((k_P σ 16 (0) ((x3 : Int32).toNatClampNeg)).bind fun j5 => ((k_P σ 6 (j5) (0)).bind fun j7 => (if j7 = a1 then ((f_X4_includes σ (j5) (k_I σ 0 (i0) (8))).bind fun v10 => (if v10 = 0 then f_X7_presentSanctions_l1 t i0 a1 σ (x2) ((x3 + 1)) else f_X7_presentSanctions_l1 t i0 a1 σ ((x2 + 1)) ((x3 + 1)))) else f_X7_presentSanctions_l1 t i0 a1 σ (x2) ((x3 + 1))))) else none)) else none)
theorem j_X7_presentSanctions_l1 (la : Launch) (hla : la.flags = flags0) (G : k_G) (X : k_X) (σ0 σ : k_S) (h : k_Ok X RX7 cX7_presentSanctions 5) (hMe : k_Me X la G σ0 { frames := 3, cells := 0, slots := 0, locals := 71 } "presentSanctions") (i0 : Nat) (a1 : Nat) : ∀ (t : Nat) (x2 : Int32) (x3 : Int32) (e : (Int32 × Int32)), f_X7_presentSanctions_l1 t i0 a1 σ x2 x3 = some e → k_W X σ 0 0 58 [some (k_p 0 (i0)), some (k_p 3 (a1)), some (k_i (e.1)), some (k_i (e.2)), none] [] → k_W X σ 0 0 4 [some (k_p 0 (i0)), some (k_p 3 (a1)), some (k_i (x2)), some (k_i (x3)), none] [] := by
  intro t
  induction t with
  | zero =>
    intro x2 x3 e hoc kk
    cases hoc
  | succ t ih =>
    intro x2 x3 e hoc kk
    rw [f_X7_presentSanctions_l1] at hoc
    refine r_iload_n h dX7_presentSanctions_4 rfl ?_
    refine r_aload_n h dX7_presentSanctions_5 rfl ?_
    obtain ⟨q2, hoc⟩ := k_gd hoc
    refine r_getR h kf_X7_25 dX7_presentSanctions_6 rfl rfl (by decide) rfl (Eq.trans rfl q2) ?_
    refine r_callL h hMe (rest := [k_i (x3)]) (as := []) (j_size la hla G _ 16 rfl) kl_X7_52 dX7_presentSanctions_9 rfl rfl rfl rfl ⟨rfl, rfl, Nat.le_of_ble_eq_true rfl, Nat.le_of_ble_eq_true rfl, Nat.le_of_ble_eq_true rfl, Nat.le_of_ble_eq_true rfl, Nat.le_of_ble_eq_true rfl⟩ (fun E q => by cases q) (fun r s q => ?_)
    cases q
    refine r_icmp_ge (tgt := 58) h dX7_presentSanctions_12 (by decide) (fun c3 => ?_) (fun c3 => ?_)
    · replace hoc := (if_pos c3).symm.trans hoc
      cases hoc
      exact kk
    · replace hoc := (if_neg c3).symm.trans hoc
      refine r_aload_n h dX7_presentSanctions_15 rfl ?_
      refine r_getR h kf_X7_25 dX7_presentSanctions_16 rfl rfl (by decide) rfl (Eq.trans rfl q2) ?_
      refine r_iload_n h dX7_presentSanctions_19 rfl ?_
      obtain ⟨c4, hoc⟩ := k_gd hoc
      obtain ⟨j5, q6, hoc⟩ := k_ob hoc
      refine r_lget h hla hMe (rest := []) c4 (Eq.trans rfl q6) rfl kl_X7_117 dX7_presentSanctions_20 ⟨Nat.le_of_ble_eq_true rfl, Nat.le_of_ble_eq_true rfl, Nat.le_of_ble_eq_true rfl, Nat.le_of_ble_eq_true rfl, Nat.le_of_ble_eq_true rfl⟩ ?_
      refine r_cast1 h dX7_presentSanctions_23 wd_149 rfl rfl rfl ?_
      refine r_astore (L' := [some (k_p 0 (i0)), some (k_p 3 (a1)), some (k_i (x2)), some (k_i (x3)), some (k_p 6 (j5))]) h dX7_presentSanctions_26 (by decide) rfl ?_
      refine r_aload h dX7_presentSanctions_28 rfl ?_
      obtain ⟨j7, q8, hoc⟩ := k_ob hoc
      refine r_getR h kf_X7_145 dX7_presentSanctions_30 rfl rfl (by decide) rfl (Eq.trans rfl q8) ?_
      refine r_aload_n h dX7_presentSanctions_33 rfl ?_
      refine r_acmp_ne (tgt := 52) h dX7_presentSanctions_34 (by decide) (fun c9 => ?_) (fun c9 => ?_)
      · replace hoc := (if_neg c9).symm.trans hoc
        refine r_iinc (v := (x3 + 1)) (L' := [some (k_p 0 (i0)), some (k_p 3 (a1)), some (k_i (x2)), some (k_i ((x3 + 1))), some (k_p 6 (j5))]) h dX7_presentSanctions_52 rfl rfl (by decide) rfl ?_
        refine r_goto (tgt := 4) h dX7_presentSanctions_55 (by decide) ?_
        exact r_forget (L' := [some (k_p 0 (i0)), some (k_p 3 (a1)), some (k_i (x2)), some (k_i ((x3 + 1))), none]) (k_le_ok ⟨rfl, ⟨rfl, ⟨rfl, ⟨rfl, trivial⟩⟩⟩⟩) (ih (x2) ((x3 + 1)) _ hoc kk)
      · replace hoc := (if_pos c9).symm.trans hoc
        refine r_aload h dX7_presentSanctions_37 rfl ?_
        refine r_aload_n h dX7_presentSanctions_39 rfl ?_
        refine r_getI h kf_X7_41 dX7_presentSanctions_40 rfl rfl (by decide) rfl ?_
        obtain ⟨v10, q11, hoc⟩ := k_ob hoc
        refine r_callV h hMe (rest := []) (as := [k_i (k_I σ 0 (i0) (8))]) (oc := .inl (k_mI v10, σ)) (j_X4_includes la hla G _ (j5) (k_I σ 0 (i0) (8)) _ q11) kl_X7_149 dX7_presentSanctions_43 rfl rfl rfl rfl rfl ⟨rfl, rfl, Nat.le_of_ble_eq_true rfl, Nat.le_of_ble_eq_true rfl, Nat.le_of_ble_eq_true rfl, Nat.le_of_ble_eq_true rfl, Nat.le_of_ble_eq_true rfl⟩ (fun E q => by cases q) (fun r s q => ?_)
        cases q
        show k_W X _ _ _ _ _ ([k_i (v10)])
        refine r_if_eq (tgt := 52) h dX7_presentSanctions_46 (by decide) (fun c12 => ?_) (fun c12 => ?_)
        · replace hoc := (if_pos c12).symm.trans hoc
          refine r_iinc (v := (x3 + 1)) (L' := [some (k_p 0 (i0)), some (k_p 3 (a1)), some (k_i (x2)), some (k_i ((x3 + 1))), some (k_p 6 (j5))]) h dX7_presentSanctions_52 rfl rfl (by decide) rfl ?_
          refine r_goto (tgt := 4) h dX7_presentSanctions_55 (by decide) ?_
          exact r_forget (L' := [some (k_p 0 (i0)), some (k_p 3 (a1)), some (k_i (x2)), some (k_i ((x3 + 1))), none]) (k_le_ok ⟨rfl, ⟨rfl, ⟨rfl, ⟨rfl, trivial⟩⟩⟩⟩) (ih (x2) ((x3 + 1)) _ hoc kk)
        · replace hoc := (if_neg c12).symm.trans hoc
          refine r_iinc (v := (x2 + 1)) (L' := [some (k_p 0 (i0)), some (k_p 3 (a1)), some (k_i ((x2 + 1))), some (k_i (x3)), some (k_p 6 (j5))]) h dX7_presentSanctions_49 rfl rfl (by decide) rfl ?_
          refine r_iinc (v := (x3 + 1)) (L' := [some (k_p 0 (i0)), some (k_p 3 (a1)), some (k_i ((x2 + 1))), some (k_i ((x3 + 1))), some (k_p 6 (j5))]) h dX7_presentSanctions_52 rfl rfl (by decide) rfl ?_
          refine r_goto (tgt := 4) h dX7_presentSanctions_55 (by decide) ?_
          exact r_forget (L' := [some (k_p 0 (i0)), some (k_p 3 (a1)), some (k_i ((x2 + 1))), some (k_i ((x3 + 1))), none]) (k_le_ok ⟨rfl, ⟨rfl, ⟨rfl, ⟨rfl, trivial⟩⟩⟩⟩) (ih ((x2 + 1)) ((x3 + 1)) _ hoc kk)
def f_X7_presentSanctions (σ : k_S) (i0 : Nat) (a1 : Nat) : Option Int32 :=
  ((f_X7_presentSanctions_l1 200 i0 a1 σ (0) (0)).bind fun v13 => some (v13.1))
theorem j_X7_presentSanctions (la : Launch) (hla : la.flags = flags0) (G : k_G) (σ : k_S) (i0 : Nat) (a1 : Nat) (x : Int32) (hoc : f_X7_presentSanctions σ i0 a1 = some x) : k_Ct la G yX7_presentSanctions (k_ws yX7_presentSanctions cX7_presentSanctions 5 (Option.some ClassFile.FieldType.int)) { frames := 3, cells := 0, slots := 0, locals := 71 } [k_p 0 (i0), k_p 3 (a1)] σ (.inl (k_mI x, σ)) 0 0 := by
  refine k_body hla (by decide +kernel) (k_wl rfl) (Nat.le_of_ble_eq_true rfl) (fun X h hEn hMe => ?_)
  show k_W X σ 0 0 0 [some (k_p 0 (i0)), some (k_p 3 (a1)), none, none, none] []
  unfold f_X7_presentSanctions at hoc
  refine r_iconst (v := 0) h dX7_presentSanctions_0 (by decide) ?_
  refine r_istore_n (L' := [some (k_p 0 (i0)), some (k_p 3 (a1)), some (k_i (0)), none, none]) h dX7_presentSanctions_1 (by decide) rfl ?_
  refine r_iconst (v := 0) h dX7_presentSanctions_2 (by decide) ?_
  refine r_istore_n (L' := [some (k_p 0 (i0)), some (k_p 3 (a1)), some (k_i (0)), some (k_i (0)), none]) h dX7_presentSanctions_3 (by decide) rfl ?_
  obtain ⟨v13, q14, hoc⟩ := k_ob hoc
  refine j_X7_presentSanctions_l1 la hla G X σ σ h hMe i0 a1 200 (0) (0) _ q14 ?_
  refine r_iload_n h dX7_presentSanctions_58 rfl ?_
  cases hoc
  exact r_ireturn h hEn dX7_presentSanctions_59 rfl rfl rfl (by decide) (by decide)
def f_X7_sanctions (σ : k_S) (i0 : Nat) (a1 : Int32) : Option (Int32 ⊕ String) :=
  (k_bt (f_X7_userAt σ (i0) (a1)) fun v1 => ((f_X7_presentSanctions σ (i0) (v1)).bind fun v3 => some (.inl (v3))))
theorem j_X7_sanctions (la : Launch) (hla : la.flags = flags0) (G : k_G) (σ : k_S) (i0 : Nat) (a1 : Int32) (x : (Int32 ⊕ String)) (hoc : f_X7_sanctions σ i0 a1 = some x) : k_Ct la G yX7_sanctions (k_ws yX7_sanctions cX7_sanctions 2 (Option.some ClassFile.FieldType.int)) { frames := 8, cells := 1, slots := 6, locals := 124 } [k_p 0 (i0), k_i (a1)] σ (k_tc k_mI σ x) 1 6 := by
  refine k_body hla (by decide +kernel) (k_wl rfl) (Nat.le_of_ble_eq_true rfl) (fun X h hEn hMe => ?_)
  show k_W X σ 0 0 0 [some (k_p 0 (i0)), some (k_i (a1))] []
  unfold f_X7_sanctions at hoc
  refine r_aload_n h dX7_sanctions_0 rfl ?_
  refine r_aload_n h dX7_sanctions_1 rfl ?_
  refine r_iload_n h dX7_sanctions_2 rfl ?_
  rcases k_bt_ex hoc with ⟨v1, q2, hoc⟩ | ⟨e5, q2, hoc⟩
  · refine r_callV h hMe (rest := [k_p 0 (i0)]) (as := [k_i (a1)]) (oc := .inl ((k_mR 3) v1, σ)) (j_X7_userAt la hla G _ (i0) (a1) _ q2) kl_X7_130 dX7_sanctions_3 rfl rfl rfl rfl rfl ⟨rfl, rfl, Nat.le_of_ble_eq_true rfl, Nat.le_of_ble_eq_true rfl, Nat.le_of_ble_eq_true rfl, Nat.le_of_ble_eq_true rfl, Nat.le_of_ble_eq_true rfl⟩ (fun E q => by cases q) (fun r s q => ?_)
    cases q
    show k_W X _ _ _ _ _ ([k_p 3 (v1), k_p 0 (i0)])
    obtain ⟨v3, q4, hoc⟩ := k_ob hoc
    refine r_callV h hMe (rest := []) (as := [k_p 3 (v1)]) (oc := .inl (k_mI v3, σ)) (j_X7_presentSanctions la hla G _ (i0) (v1) _ q4) kl_X7_137 dX7_sanctions_6 rfl rfl rfl rfl rfl ⟨rfl, rfl, Nat.le_of_ble_eq_true rfl, Nat.le_of_ble_eq_true rfl, Nat.le_of_ble_eq_true rfl, Nat.le_of_ble_eq_true rfl, Nat.le_of_ble_eq_true rfl⟩ (fun E q => by cases q) (fun r s q => ?_)
    cases q
    show k_W X _ _ _ _ _ ([k_i (v3)])
    cases hoc
    exact r_ireturn h hEn dX7_sanctions_9 rfl rfl rfl (by decide) (by decide)
  · refine r_callV h hMe (rest := [k_p 0 (i0)]) (as := [k_i (a1)]) (oc := .inr e5) (j_X7_userAt la hla G _ (i0) (a1) _ q2) kl_X7_130 dX7_sanctions_3 rfl rfl rfl rfl rfl ⟨rfl, rfl, Nat.le_of_ble_eq_true rfl, Nat.le_of_ble_eq_true rfl, Nat.le_of_ble_eq_true rfl, Nat.le_of_ble_eq_true rfl, Nat.le_of_ble_eq_true rfl⟩ (fun E q => ?_) (fun r s q => by cases q)
    cases q
    cases hoc
    exact k_T.out h hEn hMe rfl (by decide) (by decide)
def f_X7_sanctionedUntil_l1 (t : Nat) (i0 : Nat) (a1 : Int32) (b2 : Nat) (σ : k_S) (x3 : Int32) (x4 : Int32) : Option (Int32 × Int32) := match t with
  | 0 => none
  | t + 1 => (if k_P σ 0 (i0) (4) = some 0 then (if (nI (k_Z σ 16)) ≤ x4 then some ((x3, x4)) else (if 0 ≤ x4 ∧ (x4 : Int32).toNatClampNeg < k_Z σ 16 ∧ k_Z σ 16 ≤ 200 then ((k_P σ 16 (0) ((x4 : Int32).toNatClampNeg)).bind fun j10 => ((k_P σ 6 (j10) (0)).bind fun j12 => (if j12 = b2 then ((f_X4_includes σ (j10) (k_I σ 0 (i0) (8))).bind fun v15 => (if v15 = 0 then f_X7_sanctionedUntil_l1 t i0 a1 b2 σ (x3) ((x4 + 1)) else f_X7_sanctionedUntil_l1 t i0 a1 b2 σ ((if x3 < k_I σ 6 (j10) (2) then k_I σ 6 (j10) (2) else x3)) ((x4 + 1)))) else f_X7_sanctionedUntil_l1 t i0 a1 b2 σ (x3) ((x4 + 1))))) else none)) else none)
theorem j_X7_sanctionedUntil_l1 (la : Launch) (hla : la.flags = flags0) (G : k_G) (X : k_X) (σ0 σ : k_S) (h : k_Ok X RX7 cX7_sanctionedUntil 6) (hMe : k_Me X la G σ0 { frames := 8, cells := 2, slots := 12, locals := 124 } "sanctionedUntil") (i0 : Nat) (a1 : Int32) (b2 : Nat) : ∀ (t : Nat) (x3 : Int32) (x4 : Int32) (e : (Int32 × Int32)), f_X7_sanctionedUntil_l1 t i0 a1 b2 σ x3 x4 = some e → k_W X σ 1 6 95 [some (k_p 0 (i0)), some (k_i (a1)), some (k_p 3 (b2)), some (k_i (e.1)), some (k_i (e.2)), none] [] → k_W X σ 1 6 32 [some (k_p 0 (i0)), some (k_i (a1)), some (k_p 3 (b2)), some (k_i (x3)), some (k_i (x4)), none] [] := by
  intro t
  induction t with
  | zero =>
    intro x3 x4 e hoc kk
    cases hoc
  | succ t ih =>
    intro x3 x4 e hoc kk
    rw [f_X7_sanctionedUntil_l1] at hoc
    refine r_iload h dX7_sanctionedUntil_32 rfl ?_
    refine r_aload_n h dX7_sanctionedUntil_34 rfl ?_
    obtain ⟨q7, hoc⟩ := k_gd hoc
    refine r_getR h kf_X7_25 dX7_sanctionedUntil_35 rfl rfl (by decide) rfl (Eq.trans rfl q7) ?_
    refine r_callL h hMe (rest := [k_i (x4)]) (as := []) (j_size la hla G _ 16 rfl) kl_X7_52 dX7_sanctionedUntil_38 rfl rfl rfl rfl ⟨rfl, rfl, Nat.le_of_ble_eq_true rfl, Nat.le_of_ble_eq_true rfl, Nat.le_of_ble_eq_true rfl, Nat.le_of_ble_eq_true rfl, Nat.le_of_ble_eq_true rfl⟩ (fun E q => by cases q) (fun r s q => ?_)
    cases q
    refine r_icmp_ge (tgt := 95) h dX7_sanctionedUntil_41 (by decide) (fun c8 => ?_) (fun c8 => ?_)
    · replace hoc := (if_pos c8).symm.trans hoc
      cases hoc
      exact kk
    · replace hoc := (if_neg c8).symm.trans hoc
      refine r_aload_n h dX7_sanctionedUntil_44 rfl ?_
      refine r_getR h kf_X7_25 dX7_sanctionedUntil_45 rfl rfl (by decide) rfl (Eq.trans rfl q7) ?_
      refine r_iload h dX7_sanctionedUntil_48 rfl ?_
      obtain ⟨c9, hoc⟩ := k_gd hoc
      obtain ⟨j10, q11, hoc⟩ := k_ob hoc
      refine r_lget h hla hMe (rest := []) c9 (Eq.trans rfl q11) rfl kl_X7_117 dX7_sanctionedUntil_50 ⟨Nat.le_of_ble_eq_true rfl, Nat.le_of_ble_eq_true rfl, Nat.le_of_ble_eq_true rfl, Nat.le_of_ble_eq_true rfl, Nat.le_of_ble_eq_true rfl⟩ ?_
      refine r_cast1 h dX7_sanctionedUntil_53 wd_149 rfl rfl rfl ?_
      refine r_astore (L' := [some (k_p 0 (i0)), some (k_i (a1)), some (k_p 3 (b2)), some (k_i (x3)), some (k_i (x4)), some (k_p 6 (j10))]) h dX7_sanctionedUntil_56 (by decide) rfl ?_
      refine r_aload h dX7_sanctionedUntil_58 rfl ?_
      obtain ⟨j12, q13, hoc⟩ := k_ob hoc
      refine r_getR h kf_X7_145 dX7_sanctionedUntil_60 rfl rfl (by decide) rfl (Eq.trans rfl q13) ?_
      refine r_aload_n h dX7_sanctionedUntil_63 rfl ?_
      refine r_acmp_ne (tgt := 89) h dX7_sanctionedUntil_64 (by decide) (fun c14 => ?_) (fun c14 => ?_)
      · replace hoc := (if_neg c14).symm.trans hoc
        refine r_iinc (v := (x4 + 1)) (L' := [some (k_p 0 (i0)), some (k_i (a1)), some (k_p 3 (b2)), some (k_i (x3)), some (k_i ((x4 + 1))), some (k_p 6 (j10))]) h dX7_sanctionedUntil_89 rfl rfl (by decide) rfl ?_
        refine r_goto (tgt := 32) h dX7_sanctionedUntil_92 (by decide) ?_
        exact r_forget (L' := [some (k_p 0 (i0)), some (k_i (a1)), some (k_p 3 (b2)), some (k_i (x3)), some (k_i ((x4 + 1))), none]) (k_le_ok ⟨rfl, ⟨rfl, ⟨rfl, ⟨rfl, ⟨rfl, trivial⟩⟩⟩⟩⟩) (ih (x3) ((x4 + 1)) _ hoc kk)
      · replace hoc := (if_pos c14).symm.trans hoc
        refine r_aload h dX7_sanctionedUntil_67 rfl ?_
        refine r_aload_n h dX7_sanctionedUntil_69 rfl ?_
        refine r_getI h kf_X7_41 dX7_sanctionedUntil_70 rfl rfl (by decide) rfl ?_
        obtain ⟨v15, q16, hoc⟩ := k_ob hoc
        refine r_callV h hMe (rest := []) (as := [k_i (k_I σ 0 (i0) (8))]) (oc := .inl (k_mI v15, σ)) (j_X4_includes la hla G _ (j10) (k_I σ 0 (i0) (8)) _ q16) kl_X7_149 dX7_sanctionedUntil_73 rfl rfl rfl rfl rfl ⟨rfl, rfl, Nat.le_of_ble_eq_true rfl, Nat.le_of_ble_eq_true rfl, Nat.le_of_ble_eq_true rfl, Nat.le_of_ble_eq_true rfl, Nat.le_of_ble_eq_true rfl⟩ (fun E q => by cases q) (fun r s q => ?_)
        cases q
        show k_W X _ _ _ _ _ ([k_i (v15)])
        refine r_if_eq (tgt := 89) h dX7_sanctionedUntil_76 (by decide) (fun c17 => ?_) (fun c17 => ?_)
        · replace hoc := (if_pos c17).symm.trans hoc
          refine r_iinc (v := (x4 + 1)) (L' := [some (k_p 0 (i0)), some (k_i (a1)), some (k_p 3 (b2)), some (k_i (x3)), some (k_i ((x4 + 1))), some (k_p 6 (j10))]) h dX7_sanctionedUntil_89 rfl rfl (by decide) rfl ?_
          refine r_goto (tgt := 32) h dX7_sanctionedUntil_92 (by decide) ?_
          exact r_forget (L' := [some (k_p 0 (i0)), some (k_i (a1)), some (k_p 3 (b2)), some (k_i (x3)), some (k_i ((x4 + 1))), none]) (k_le_ok ⟨rfl, ⟨rfl, ⟨rfl, ⟨rfl, ⟨rfl, trivial⟩⟩⟩⟩⟩) (ih (x3) ((x4 + 1)) _ hoc kk)
        · replace hoc := (if_neg c17).symm.trans hoc
          refine r_iload_n h dX7_sanctionedUntil_79 rfl ?_
          refine r_aload h dX7_sanctionedUntil_80 rfl ?_
          refine r_getI h kf_X7_152 dX7_sanctionedUntil_82 rfl rfl (by decide) rfl ?_
          refine r_max h hMe ⟨kl_X7_76.1.1, kl_X7_76.2, kl_X7_76.1.2.1, kl_X7_76.1.2.2.1⟩ dX7_sanctionedUntil_85 ⟨Nat.le_of_ble_eq_true rfl, Nat.le_of_ble_eq_true rfl, Nat.le_of_ble_eq_true rfl, Nat.le_of_ble_eq_true rfl⟩ ?_
          refine r_istore_n (L' := [some (k_p 0 (i0)), some (k_i (a1)), some (k_p 3 (b2)), some (k_i ((if x3 < k_I σ 6 (j10) (2) then k_I σ 6 (j10) (2) else x3))), some (k_i (x4)), some (k_p 6 (j10))]) h dX7_sanctionedUntil_88 (by decide) rfl ?_
          refine r_iinc (v := (x4 + 1)) (L' := [some (k_p 0 (i0)), some (k_i (a1)), some (k_p 3 (b2)), some (k_i ((if x3 < k_I σ 6 (j10) (2) then k_I σ 6 (j10) (2) else x3))), some (k_i ((x4 + 1))), some (k_p 6 (j10))]) h dX7_sanctionedUntil_89 rfl rfl (by decide) rfl ?_
          refine r_goto (tgt := 32) h dX7_sanctionedUntil_92 (by decide) ?_
          exact r_forget (L' := [some (k_p 0 (i0)), some (k_i (a1)), some (k_p 3 (b2)), some (k_i ((if x3 < k_I σ 6 (j10) (2) then k_I σ 6 (j10) (2) else x3))), some (k_i ((x4 + 1))), none]) (k_le_ok ⟨rfl, ⟨rfl, ⟨rfl, ⟨rfl, ⟨rfl, trivial⟩⟩⟩⟩⟩) (ih ((if x3 < k_I σ 6 (j10) (2) then k_I σ 6 (j10) (2) else x3)) ((x4 + 1)) _ hoc kk)
def f_X7_sanctionedUntil (σ : k_S) (i0 : Nat) (a1 : Int32) : Option (Int32 ⊕ String) :=
  (k_bt (f_X7_userAt σ (i0) (a1)) fun v1 => ((f_X7_presentSanctions σ (i0) (v1)).bind fun v3 => (if v3 = 0 then some (.inr "java/util/NoSuchElementException") else ((f_X7_sanctionedUntil_l1 200 i0 a1 (v1) σ (k_I σ 0 (i0) (8)) (0)).bind fun v18 => some (.inl (v18.1))))))
theorem j_X7_sanctionedUntil (la : Launch) (hla : la.flags = flags0) (G : k_G) (σ : k_S) (i0 : Nat) (a1 : Int32) (x : (Int32 ⊕ String)) (hoc : f_X7_sanctionedUntil σ i0 a1 = some x) : k_Ct la G yX7_sanctionedUntil (k_ws yX7_sanctionedUntil cX7_sanctionedUntil 6 (Option.some ClassFile.FieldType.int)) { frames := 8, cells := 2, slots := 12, locals := 124 } [k_p 0 (i0), k_i (a1)] σ (k_tc k_mI σ x) 2 12 := by
  refine k_body hla (by decide +kernel) (k_wl rfl) (Nat.le_of_ble_eq_true rfl) (fun X h hEn hMe => ?_)
  show k_W X σ 0 0 0 [some (k_p 0 (i0)), some (k_i (a1)), none, none, none, none] []
  unfold f_X7_sanctionedUntil at hoc
  refine r_aload_n h dX7_sanctionedUntil_0 rfl ?_
  refine r_iload_n h dX7_sanctionedUntil_1 rfl ?_
  rcases k_bt_ex hoc with ⟨v1, q2, hoc⟩ | ⟨e20, q2, hoc⟩
  · refine r_callV h hMe (rest := []) (as := [k_i (a1)]) (oc := .inl ((k_mR 3) v1, σ)) (j_X7_userAt la hla G _ (i0) (a1) _ q2) kl_X7_130 dX7_sanctionedUntil_2 rfl rfl rfl rfl rfl ⟨rfl, rfl, Nat.le_of_ble_eq_true rfl, Nat.le_of_ble_eq_true rfl, Nat.le_of_ble_eq_true rfl, Nat.le_of_ble_eq_true rfl, Nat.le_of_ble_eq_true rfl⟩ (fun E q => by cases q) (fun r s q => ?_)
    cases q
    show k_W X _ _ _ _ _ ([k_p 3 (v1)])
    refine r_astore_n (L' := [some (k_p 0 (i0)), some (k_i (a1)), some (k_p 3 (v1)), none, none, none]) h dX7_sanctionedUntil_5 (by decide) rfl ?_
    refine r_aload_n h dX7_sanctionedUntil_6 rfl ?_
    refine r_aload_n h dX7_sanctionedUntil_7 rfl ?_
    obtain ⟨v3, q4, hoc⟩ := k_ob hoc
    refine r_callV h hMe (rest := []) (as := [k_p 3 (v1)]) (oc := .inl (k_mI v3, σ)) (j_X7_presentSanctions la hla G _ (i0) (v1) _ q4) kl_X7_137 dX7_sanctionedUntil_8 rfl rfl rfl rfl rfl ⟨rfl, rfl, Nat.le_of_ble_eq_true rfl, Nat.le_of_ble_eq_true rfl, Nat.le_of_ble_eq_true rfl, Nat.le_of_ble_eq_true rfl, Nat.le_of_ble_eq_true rfl⟩ (fun E q => by cases q) (fun r s q => ?_)
    cases q
    show k_W X _ _ _ _ _ ([k_i (v3)])
    refine r_if_ne (tgt := 24) h dX7_sanctionedUntil_11 (by decide) (fun c5 => ?_) (fun c5 => ?_)
    · replace hoc := (if_neg c5).symm.trans hoc
      refine r_aload_n h dX7_sanctionedUntil_24 rfl ?_
      refine r_getI h kf_X7_41 dX7_sanctionedUntil_25 rfl rfl (by decide) rfl ?_
      refine r_istore_n (L' := [some (k_p 0 (i0)), some (k_i (a1)), some (k_p 3 (v1)), some (k_i (k_I σ 0 (i0) (8))), none, none]) h dX7_sanctionedUntil_28 (by decide) rfl ?_
      refine r_iconst (v := 0) h dX7_sanctionedUntil_29 (by decide) ?_
      refine r_istore (L' := [some (k_p 0 (i0)), some (k_i (a1)), some (k_p 3 (v1)), some (k_i (k_I σ 0 (i0) (8))), some (k_i (0)), none]) h dX7_sanctionedUntil_30 (by decide) rfl ?_
      obtain ⟨v18, q19, hoc⟩ := k_ob hoc
      refine j_X7_sanctionedUntil_l1 la hla G X σ σ h hMe i0 a1 (v1) 200 (k_I σ 0 (i0) (8)) (0) _ q19 ?_
      refine r_iload_n h dX7_sanctionedUntil_95 rfl ?_
      cases hoc
      exact r_ireturn h hEn dX7_sanctionedUntil_96 rfl rfl rfl (by decide) (by decide)
    · replace hoc := (if_pos c5).symm.trans hoc
      cases hoc
      exact r_throwN h hEn hMe kt_X7_112_141 dX7_sanctionedUntil_14 dX7_sanctionedUntil_17 dX7_sanctionedUntil_18 dX7_sanctionedUntil_20 dX7_sanctionedUntil_23 rfl (by decide) (by decide) (by decide)
  · refine r_callV h hMe (rest := []) (as := [k_i (a1)]) (oc := .inr e20) (j_X7_userAt la hla G _ (i0) (a1) _ q2) kl_X7_130 dX7_sanctionedUntil_2 rfl rfl rfl rfl rfl ⟨rfl, rfl, Nat.le_of_ble_eq_true rfl, Nat.le_of_ble_eq_true rfl, Nat.le_of_ble_eq_true rfl, Nat.le_of_ble_eq_true rfl, Nat.le_of_ble_eq_true rfl⟩ (fun E q => ?_) (fun r s q => by cases q)
    cases q
    cases hoc
    exact k_T.out h hEn hMe rfl (by decide) (by decide)
def f_X7_addBot (σ : k_S) (i0 : Nat) (a1 : Int32) (a2 : Int32) : Option ((Int32 × k_S) ⊕ String) :=
  (k_bt (f_X7_requireWithin σ (a1) (0) (7)) fun v1 => (k_bt (f_X7_requireWithin σ (a2) (50) (100)) fun v3 => (if k_P σ 0 (i0) (2) = some 0 then (k_bt (f_X7_requireRoom σ ((nI (k_Z σ 14))) (4)) fun v7 => ((f_X0_init (k_new σ 4) (k_N σ 4) (a1) (a2)).bind fun v9 => (if k_Z v9.2 14 ≤ 200 then (if k_P v9.2 0 (i0) (2) = some 0 then some (.inl (((nI (k_Z (k_ladd v9.2 14 (k_N σ 4)) 14)) - 1), (k_ladd v9.2 14 (k_N σ 4)))) else none) else none))) else none)))
theorem j_X7_addBot (la : Launch) (hla : la.flags = flags0) (G : k_G) (σ : k_S) (i0 : Nat) (a1 : Int32) (a2 : Int32) (x : ((Int32 × k_S) ⊕ String)) (hoc : f_X7_addBot σ i0 a1 a2 = some x) : k_Ct la G yX7_addBot (k_ws yX7_addBot cX7_addBot 3 (Option.some ClassFile.FieldType.int)) { frames := 7, cells := 5, slots := 320, locals := 231 } [k_p 0 (i0), k_i (a1), k_i (a2)] σ (k_mc k_mI x) 5 320 := by
  refine k_body hla (by decide +kernel) (k_wl rfl) (Nat.le_of_ble_eq_true rfl) (fun X h hEn hMe => ?_)
  show k_W X σ 0 0 0 [some (k_p 0 (i0)), some (k_i (a1)), some (k_i (a2))] []
  unfold f_X7_addBot at hoc
  refine r_iload_n h dX7_addBot_0 rfl ?_
  refine r_iconst (v := 0) h dX7_addBot_1 (by decide) ?_
  refine r_bipush (v := 7) h dX7_addBot_2 (by decide) ?_
  rcases k_bt_ex hoc with ⟨v1, q2, hoc⟩ | ⟨e16, q2, hoc⟩
  · refine r_callS h hMe (rest := []) (as := [k_i (a1), k_i (0), k_i (7)]) (oc := .inl (k_mU v1, σ)) (j_X7_requireWithin la hla G _ (a1) (0) (7) _ q2) kl_X7_48 dX7_addBot_4 rfl rfl  ⟨rfl, rfl, Nat.le_of_ble_eq_true rfl, Nat.le_of_ble_eq_true rfl, Nat.le_of_ble_eq_true rfl, Nat.le_of_ble_eq_true rfl, Nat.le_of_ble_eq_true rfl⟩ (fun E q => by cases q) (fun r s q => ?_)
    cases q
    show k_W X _ _ _ _ _ ([])
    refine r_iload_n h dX7_addBot_7 rfl ?_
    refine r_bipush (v := 50) h dX7_addBot_8 (by decide) ?_
    refine r_bipush (v := 100) h dX7_addBot_10 (by decide) ?_
    rcases k_bt_ex hoc with ⟨v3, q4, hoc⟩ | ⟨e15, q4, hoc⟩
    · refine r_callS h hMe (rest := []) (as := [k_i (a2), k_i (50), k_i (100)]) (oc := .inl (k_mU v3, σ)) (j_X7_requireWithin la hla G _ (a2) (50) (100) _ q4) kl_X7_48 dX7_addBot_12 rfl rfl  ⟨rfl, rfl, Nat.le_of_ble_eq_true rfl, Nat.le_of_ble_eq_true rfl, Nat.le_of_ble_eq_true rfl, Nat.le_of_ble_eq_true rfl, Nat.le_of_ble_eq_true rfl⟩ (fun E q => by cases q) (fun r s q => ?_)
      cases q
      show k_W X _ _ _ _ _ ([])
      refine r_aload_n h dX7_addBot_15 rfl ?_
      obtain ⟨q6, hoc⟩ := k_gd hoc
      refine r_getR h kf_X7_19 dX7_addBot_16 rfl rfl (by decide) rfl (Eq.trans rfl q6) ?_
      refine r_callL h hMe (rest := []) (as := []) (j_size la hla G _ 14 rfl) kl_X7_52 dX7_addBot_19 rfl rfl rfl rfl ⟨rfl, rfl, Nat.le_of_ble_eq_true rfl, Nat.le_of_ble_eq_true rfl, Nat.le_of_ble_eq_true rfl, Nat.le_of_ble_eq_true rfl, Nat.le_of_ble_eq_true rfl⟩ (fun E q => by cases q) (fun r s q => ?_)
      cases q
      refine r_iconst (v := 4) h dX7_addBot_22 (by decide) ?_
      rcases k_bt_ex hoc with ⟨v7, q8, hoc⟩ | ⟨e14, q8, hoc⟩
      · refine r_callS h hMe (rest := []) (as := [k_i ((nI (k_Z σ 14))), k_i (4)]) (oc := .inl (k_mU v7, σ)) (j_X7_requireRoom la hla G _ ((nI (k_Z σ 14))) (4) _ q8) kl_X7_56 dX7_addBot_23 rfl rfl  ⟨rfl, rfl, Nat.le_of_ble_eq_true rfl, Nat.le_of_ble_eq_true rfl, Nat.le_of_ble_eq_true rfl, Nat.le_of_ble_eq_true rfl, Nat.le_of_ble_eq_true rfl⟩ (fun E q => by cases q) (fun r s q => ?_)
        cases q
        show k_W X _ _ _ _ _ ([])
        refine r_aload_n h dX7_addBot_26 rfl ?_
        refine r_getR h kf_X7_19 dX7_addBot_27 rfl rfl (by decide) rfl (Eq.trans rfl q6) ?_
        refine r_new h hMe 4 kn_X7_153 dX7_addBot_30 (by decide) ?_
        refine r_dup h dX7_addBot_33 rfl ?_
        refine r_iload_n h dX7_addBot_34 rfl ?_
        refine r_iload_n h dX7_addBot_35 rfl ?_
        obtain ⟨v9, q10, hoc⟩ := k_ob hoc
        refine r_callI h hMe (rest := [k_p 4 (k_N σ 4), k_p 14 (0)]) (as := [k_i (a1), k_i (a2)]) (oc := .inl (k_mU v9.1, v9.2)) (j_X0_init la hla G _ (k_N σ 4) (a1) (a2) _ q10) kl_X7_155 dX7_addBot_36 rfl rfl  ⟨rfl, rfl, Nat.le_of_ble_eq_true rfl, Nat.le_of_ble_eq_true rfl, Nat.le_of_ble_eq_true rfl, Nat.le_of_ble_eq_true rfl, Nat.le_of_ble_eq_true rfl⟩ (fun E q => by cases q) (fun r s q => ?_)
        cases q
        show k_W X _ _ _ _ _ ([k_p 4 (k_N σ 4), k_p 14 (0)])
        obtain ⟨c11, hoc⟩ := k_gd hoc
        refine r_callL h hMe (rest := []) (as := [k_p 4 (k_N σ 4)]) (j_add la hla G _ 14 _ rfl (Nat.le_trans (Nat.le_of_eq rfl) c11)) kl_X7_65 dX7_addBot_39 rfl rfl rfl rfl ⟨rfl, rfl, Nat.le_of_ble_eq_true rfl, Nat.le_of_ble_eq_true rfl, Nat.le_of_ble_eq_true rfl, Nat.le_of_ble_eq_true rfl, Nat.le_of_ble_eq_true rfl⟩ (fun E q => by cases q) (fun r s q => ?_)
        cases q
        refine r_pop h dX7_addBot_42 rfl ?_
        refine r_aload_n h dX7_addBot_43 rfl ?_
        obtain ⟨q13, hoc⟩ := k_gd hoc
        refine r_getR h kf_X7_19 dX7_addBot_44 rfl rfl (by decide) rfl (Eq.trans (k_Pa (by decide)) q13) ?_
        refine r_callL h hMe (rest := []) (as := []) (j_size la hla G _ 14 rfl) kl_X7_52 dX7_addBot_47 rfl rfl rfl rfl ⟨rfl, rfl, Nat.le_of_ble_eq_true rfl, Nat.le_of_ble_eq_true rfl, Nat.le_of_ble_eq_true rfl, Nat.le_of_ble_eq_true rfl, Nat.le_of_ble_eq_true rfl⟩ (fun E q => by cases q) (fun r s q => ?_)
        cases q
        refine r_eqI (congrArg nI rfl) ?_
        refine r_iconst (v := 1) h dX7_addBot_50 (by decide) ?_
        refine r_isub h dX7_addBot_51 ?_
        cases hoc
        exact r_ireturn h hEn dX7_addBot_52 rfl rfl rfl (by decide) (by decide)
      · refine r_callS h hMe (rest := []) (as := [k_i ((nI (k_Z σ 14))), k_i (4)]) (oc := .inr e14) (j_X7_requireRoom la hla G _ ((nI (k_Z σ 14))) (4) _ q8) kl_X7_56 dX7_addBot_23 rfl rfl  ⟨rfl, rfl, Nat.le_of_ble_eq_true rfl, Nat.le_of_ble_eq_true rfl, Nat.le_of_ble_eq_true rfl, Nat.le_of_ble_eq_true rfl, Nat.le_of_ble_eq_true rfl⟩ (fun E q => ?_) (fun r s q => by cases q)
        cases q
        cases hoc
        exact k_T.out h hEn hMe rfl (by decide) (by decide)
    · refine r_callS h hMe (rest := []) (as := [k_i (a2), k_i (50), k_i (100)]) (oc := .inr e15) (j_X7_requireWithin la hla G _ (a2) (50) (100) _ q4) kl_X7_48 dX7_addBot_12 rfl rfl  ⟨rfl, rfl, Nat.le_of_ble_eq_true rfl, Nat.le_of_ble_eq_true rfl, Nat.le_of_ble_eq_true rfl, Nat.le_of_ble_eq_true rfl, Nat.le_of_ble_eq_true rfl⟩ (fun E q => ?_) (fun r s q => by cases q)
      cases q
      cases hoc
      exact k_T.out h hEn hMe rfl (by decide) (by decide)
  · refine r_callS h hMe (rest := []) (as := [k_i (a1), k_i (0), k_i (7)]) (oc := .inr e16) (j_X7_requireWithin la hla G _ (a1) (0) (7) _ q2) kl_X7_48 dX7_addBot_4 rfl rfl  ⟨rfl, rfl, Nat.le_of_ble_eq_true rfl, Nat.le_of_ble_eq_true rfl, Nat.le_of_ble_eq_true rfl, Nat.le_of_ble_eq_true rfl, Nat.le_of_ble_eq_true rfl⟩ (fun E q => ?_) (fun r s q => by cases q)
    cases q
    cases hoc
    exact k_T.out h hEn hMe rfl (by decide) (by decide)
def f_X7_threshold (σ : k_S) (i0 : Nat) (a1 : Int32) : Option (Int32 ⊕ String) :=
  (if k_P σ 0 (i0) (2) = some 0 then (k_bt (f_X7_requireIndex σ (a1) ((nI (k_Z σ 14)))) fun v3 => (if 0 ≤ a1 ∧ (a1 : Int32).toNatClampNeg < k_Z σ 14 ∧ k_Z σ 14 ≤ 200 then ((k_P σ 14 (0) ((a1 : Int32).toNatClampNeg)).bind fun j6 => some (.inl (k_I σ 4 (j6) (1)))) else none)) else none)
theorem j_X7_threshold (la : Launch) (hla : la.flags = flags0) (G : k_G) (σ : k_S) (i0 : Nat) (a1 : Int32) (x : (Int32 ⊕ String)) (hoc : f_X7_threshold σ i0 a1 = some x) : k_Ct la G yX7_threshold (k_ws yX7_threshold cX7_threshold 2 (Option.some ClassFile.FieldType.int)) { frames := 7, cells := 1, slots := 6, locals := 103 } [k_p 0 (i0), k_i (a1)] σ (k_tc k_mI σ x) 1 6 := by
  refine k_body hla (by decide +kernel) (k_wl rfl) (Nat.le_of_ble_eq_true rfl) (fun X h hEn hMe => ?_)
  show k_W X σ 0 0 0 [some (k_p 0 (i0)), some (k_i (a1))] []
  unfold f_X7_threshold at hoc
  refine r_iload_n h dX7_threshold_0 rfl ?_
  refine r_aload_n h dX7_threshold_1 rfl ?_
  obtain ⟨q2, hoc⟩ := k_gd hoc
  refine r_getR h kf_X7_19 dX7_threshold_2 rfl rfl (by decide) rfl (Eq.trans rfl q2) ?_
  refine r_callL h hMe (rest := [k_i (a1)]) (as := []) (j_size la hla G _ 14 rfl) kl_X7_52 dX7_threshold_5 rfl rfl rfl rfl ⟨rfl, rfl, Nat.le_of_ble_eq_true rfl, Nat.le_of_ble_eq_true rfl, Nat.le_of_ble_eq_true rfl, Nat.le_of_ble_eq_true rfl, Nat.le_of_ble_eq_true rfl⟩ (fun E q => by cases q) (fun r s q => ?_)
  cases q
  rcases k_bt_ex hoc with ⟨v3, q4, hoc⟩ | ⟨e8, q4, hoc⟩
  · refine r_callS h hMe (rest := []) (as := [k_i (a1), k_i ((nI (k_Z σ 14)))]) (oc := .inl (k_mU v3, σ)) (j_X7_requireIndex la hla G _ (a1) ((nI (k_Z σ 14))) _ q4) kl_X7_157 dX7_threshold_8 rfl rfl  ⟨rfl, rfl, Nat.le_of_ble_eq_true rfl, Nat.le_of_ble_eq_true rfl, Nat.le_of_ble_eq_true rfl, Nat.le_of_ble_eq_true rfl, Nat.le_of_ble_eq_true rfl⟩ (fun E q => by cases q) (fun r s q => ?_)
    cases q
    show k_W X _ _ _ _ _ ([])
    refine r_aload_n h dX7_threshold_11 rfl ?_
    refine r_getR h kf_X7_19 dX7_threshold_12 rfl rfl (by decide) rfl (Eq.trans rfl q2) ?_
    refine r_iload_n h dX7_threshold_15 rfl ?_
    obtain ⟨c5, hoc⟩ := k_gd hoc
    obtain ⟨j6, q7, hoc⟩ := k_ob hoc
    refine r_lget h hla hMe (rest := []) c5 (Eq.trans rfl q7) rfl kl_X7_117 dX7_threshold_16 ⟨Nat.le_of_ble_eq_true rfl, Nat.le_of_ble_eq_true rfl, Nat.le_of_ble_eq_true rfl, Nat.le_of_ble_eq_true rfl, Nat.le_of_ble_eq_true rfl⟩ ?_
    refine r_cast1 h dX7_threshold_19 wd_223 rfl rfl rfl ?_
    refine r_getI h kf_X7_160 dX7_threshold_22 rfl rfl (by decide) rfl ?_
    cases hoc
    exact r_ireturn h hEn dX7_threshold_25 rfl rfl rfl (by decide) (by decide)
  · refine r_callS h hMe (rest := []) (as := [k_i (a1), k_i ((nI (k_Z σ 14)))]) (oc := .inr e8) (j_X7_requireIndex la hla G _ (a1) ((nI (k_Z σ 14))) _ q4) kl_X7_157 dX7_threshold_8 rfl rfl  ⟨rfl, rfl, Nat.le_of_ble_eq_true rfl, Nat.le_of_ble_eq_true rfl, Nat.le_of_ble_eq_true rfl, Nat.le_of_ble_eq_true rfl, Nat.le_of_ble_eq_true rfl⟩ (fun E q => ?_) (fun r s q => by cases q)
    cases q
    cases hoc
    exact k_T.out h hEn hMe rfl (by decide) (by decide)
def f_X7_botFor_l1 (t : Nat) (i0 : Nat) (a1 : Nat) (σ : k_S) (x2 : Int32) : Option ((Int32) ⊕ (Option Nat)) := match t with
  | 0 => none
  | t + 1 => (if k_P σ 0 (i0) (2) = some 0 then (if (nI (k_Z σ 14)) ≤ x2 then some (.inl (x2)) else (if 0 ≤ x2 ∧ (x2 : Int32).toNatClampNeg < k_Z σ 14 ∧ k_Z σ 14 ≤ 200 then ((k_P σ 14 (0) ((x2 : Int32).toNatClampNeg)).bind fun j5 => ((f_X2_tells σ (a1) (k_I σ 4 (j5) (0))).bind fun v7 => (if v7 = 0 then f_X7_botFor_l1 t i0 a1 σ ((x2 + 1)) else (if k_I σ 5 (a1) (4) < k_I σ 4 (j5) (1) then f_X7_botFor_l1 t i0 a1 σ ((x2 + 1)) else some (.inr (some (j5))))))) else none)) else none)
theorem j_X7_botFor_l1 (la : Launch) (hla : la.flags = flags0) (G : k_G) (X : k_X) (σ0 σ : k_S) (h : k_Ok X RX7 cX7_botFor 4) (hMe : k_Me X la G σ0 { frames := 3, cells := 0, slots := 0, locals := 71 } "botFor") (oc : k_Oc) (hEn : k_En X (Option.some (ClassFile.FieldType.object "PrecedentHall$Bot")) oc 0 0 []) (i0 : Nat) (a1 : Nat) : ∀ (t : Nat) (x2 : Int32) (r : ((Int32) ⊕ (Option Nat))), f_X7_botFor_l1 t i0 a1 σ x2 = some r → (∀ e, r = .inl e → k_W X σ 0 0 55 [some (k_p 0 (i0)), some (k_p 5 (a1)), some (k_i (e)), none] []) → (∀ p, r = .inr p → oc = (.inl ((k_mO 4) p, σ))) → k_W X σ 0 0 2 [some (k_p 0 (i0)), some (k_p 5 (a1)), some (k_i (x2)), none] [] := by
  intro t
  induction t with
  | zero =>
    intro x2 r hoc kk hret
    cases hoc
  | succ t ih =>
    intro x2 r hoc kk hret
    rw [f_X7_botFor_l1] at hoc
    refine r_iload_n h dX7_botFor_2 rfl ?_
    refine r_aload_n h dX7_botFor_3 rfl ?_
    obtain ⟨q2, hoc⟩ := k_gd hoc
    refine r_getR h kf_X7_19 dX7_botFor_4 rfl rfl (by decide) rfl (Eq.trans rfl q2) ?_
    refine r_callL h hMe (rest := [k_i (x2)]) (as := []) (j_size la hla G _ 14 rfl) kl_X7_52 dX7_botFor_7 rfl rfl rfl rfl ⟨rfl, rfl, Nat.le_of_ble_eq_true rfl, Nat.le_of_ble_eq_true rfl, Nat.le_of_ble_eq_true rfl, Nat.le_of_ble_eq_true rfl, Nat.le_of_ble_eq_true rfl⟩ (fun E q => by cases q) (fun r s q => ?_)
    cases q
    refine r_icmp_ge (tgt := 55) h dX7_botFor_10 (by decide) (fun c3 => ?_) (fun c3 => ?_)
    · replace hoc := (if_pos c3).symm.trans hoc
      cases hoc
      exact kk _ rfl
    · replace hoc := (if_neg c3).symm.trans hoc
      refine r_aload_n h dX7_botFor_13 rfl ?_
      refine r_getR h kf_X7_19 dX7_botFor_14 rfl rfl (by decide) rfl (Eq.trans rfl q2) ?_
      refine r_iload_n h dX7_botFor_17 rfl ?_
      obtain ⟨c4, hoc⟩ := k_gd hoc
      obtain ⟨j5, q6, hoc⟩ := k_ob hoc
      refine r_lget h hla hMe (rest := []) c4 (Eq.trans rfl q6) rfl kl_X7_117 dX7_botFor_18 ⟨Nat.le_of_ble_eq_true rfl, Nat.le_of_ble_eq_true rfl, Nat.le_of_ble_eq_true rfl, Nat.le_of_ble_eq_true rfl, Nat.le_of_ble_eq_true rfl⟩ ?_
      refine r_cast1 h dX7_botFor_21 wd_223 rfl rfl rfl ?_
      refine r_astore_n (L' := [some (k_p 0 (i0)), some (k_p 5 (a1)), some (k_i (x2)), some (k_p 4 (j5))]) h dX7_botFor_24 (by decide) rfl ?_
      refine r_aload_n h dX7_botFor_25 rfl ?_
      refine r_aload_n h dX7_botFor_26 rfl ?_
      refine r_getI h kf_X7_337 dX7_botFor_27 rfl rfl (by decide) rfl ?_
      obtain ⟨v7, q8, hoc⟩ := k_ob hoc
      refine r_callV h hMe (rest := []) (as := [k_i (k_I σ 4 (j5) (0))]) (oc := .inl (k_mI v7, σ)) (j_X2_tells la hla G _ (a1) (k_I σ 4 (j5) (0)) _ q8) kl_X7_334 dX7_botFor_30 rfl rfl rfl rfl rfl ⟨rfl, rfl, Nat.le_of_ble_eq_true rfl, Nat.le_of_ble_eq_true rfl, Nat.le_of_ble_eq_true rfl, Nat.le_of_ble_eq_true rfl, Nat.le_of_ble_eq_true rfl⟩ (fun E q => by cases q) (fun r s q => ?_)
      cases q
      show k_W X _ _ _ _ _ ([k_i (v7)])
      refine r_if_eq (tgt := 49) h dX7_botFor_33 (by decide) (fun c9 => ?_) (fun c9 => ?_)
      · replace hoc := (if_pos c9).symm.trans hoc
        refine r_iinc (v := (x2 + 1)) (L' := [some (k_p 0 (i0)), some (k_p 5 (a1)), some (k_i ((x2 + 1))), some (k_p 4 (j5))]) h dX7_botFor_49 rfl rfl (by decide) rfl ?_
        refine r_goto (tgt := 2) h dX7_botFor_52 (by decide) ?_
        exact r_forget (L' := [some (k_p 0 (i0)), some (k_p 5 (a1)), some (k_i ((x2 + 1))), none]) (k_le_ok ⟨rfl, ⟨rfl, ⟨rfl, trivial⟩⟩⟩) (ih ((x2 + 1)) _ hoc kk hret)
      · replace hoc := (if_neg c9).symm.trans hoc
        refine r_aload_n h dX7_botFor_36 rfl ?_
        refine r_getI h kf_X7_160 dX7_botFor_37 rfl rfl (by decide) rfl ?_
        refine r_aload_n h dX7_botFor_40 rfl ?_
        refine r_getI h kf_X7_298 dX7_botFor_41 rfl rfl (by decide) rfl ?_
        refine r_icmp_gt (tgt := 49) h dX7_botFor_44 (by decide) (fun c10 => ?_) (fun c10 => ?_)
        · replace hoc := (if_pos c10).symm.trans hoc
          refine r_iinc (v := (x2 + 1)) (L' := [some (k_p 0 (i0)), some (k_p 5 (a1)), some (k_i ((x2 + 1))), some (k_p 4 (j5))]) h dX7_botFor_49 rfl rfl (by decide) rfl ?_
          refine r_goto (tgt := 2) h dX7_botFor_52 (by decide) ?_
          exact r_forget (L' := [some (k_p 0 (i0)), some (k_p 5 (a1)), some (k_i ((x2 + 1))), none]) (k_le_ok ⟨rfl, ⟨rfl, ⟨rfl, trivial⟩⟩⟩) (ih ((x2 + 1)) _ hoc kk hret)
        · replace hoc := (if_neg c10).symm.trans hoc
          refine r_aload_n h dX7_botFor_47 rfl ?_
          cases hoc
          exact r_areturn h hEn dX7_botFor_48 rfl (hret _ rfl) (by decide) (by decide)
def f_X7_botFor (σ : k_S) (i0 : Nat) (a1 : Nat) : Option (Option Nat) :=
  (k_lr (f_X7_botFor_l1 200 i0 a1 σ (0)) fun v11 => some (none))
theorem j_X7_botFor (la : Launch) (hla : la.flags = flags0) (G : k_G) (σ : k_S) (i0 : Nat) (a1 : Nat) (x : (Option Nat)) (hoc : f_X7_botFor σ i0 a1 = some x) : k_Ct la G yX7_botFor (k_ws yX7_botFor cX7_botFor 4 (Option.some (ClassFile.FieldType.object "PrecedentHall$Bot"))) { frames := 3, cells := 0, slots := 0, locals := 71 } [k_p 0 (i0), k_p 5 (a1)] σ (.inl ((k_mO 4) x, σ)) 0 0 := by
  refine k_body hla (by decide +kernel) (k_wl rfl) (Nat.le_of_ble_eq_true rfl) (fun X h hEn hMe => ?_)
  show k_W X σ 0 0 0 [some (k_p 0 (i0)), some (k_p 5 (a1)), none, none] []
  unfold f_X7_botFor at hoc
  refine r_iconst (v := 0) h dX7_botFor_0 (by decide) ?_
  refine r_istore_n (L' := [some (k_p 0 (i0)), some (k_p 5 (a1)), some (k_i (0)), none]) h dX7_botFor_1 (by decide) rfl ?_
  rcases k_lr_ex hoc with ⟨v11, q12, hoc⟩ | q12
  · refine j_X7_botFor_l1 la hla G X σ σ h hMe _ hEn i0 a1 200 (0) _ q12 (fun e5 q5 => ?_) (fun p5 q5 => by cases q5)
    cases q5
    refine r_null h dX7_botFor_55 ?_
    cases hoc
    exact r_areturnN h hEn dX7_botFor_56 rfl rfl (by decide) (by decide)
  · exact j_X7_botFor_l1 la hla G X σ σ h hMe _ hEn i0 a1 200 (0) _ q12 (fun e5 q5 => by cases q5) (fun p5 q5 => by cases q5; rfl)
