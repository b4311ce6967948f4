/-! ===== walks 7 (written by wip/whole/gen_walk.py, emit_walk.py) ===== -/
def f_X7_wasReversed (σ : k_S) (i0 : Nat) (a1 : Int32) : Option (Int32 ⊕ String) :=
  (k_bt (f_X7_reportAt σ (i0) (a1)) fun v1 => (if k_I σ 5 (v1) (12) = 0 ∨ k_I σ 5 (v1) (12) = 1 then some (.inl (k_I σ 5 (v1) (12))) else none))
theorem j_X7_wasReversed (la : Launch) (hla : la.flags = flags0) (G : k_G) (σ : k_S) (i0 : Nat) (a1 : Int32) (x : (Int32 ⊕ String)) (hoc : f_X7_wasReversed σ i0 a1 = some x) : k_Ct la G yX7_wasReversed (k_ws yX7_wasReversed cX7_wasReversed 2 (Option.some ClassFile.FieldType.boolean)) { frames := 8, cells := 1, slots := 6, locals := 124 } [k_p 0 (i0), k_i (a1)] σ (k_tc k_mI σ x) 1 6 := by
  refine k_body hla (by decide +kernel) (k_wl rfl) (Nat.le_of_ble_eq_true rfl) (fun X h hEn hMe => ?_)
  show k_W X σ 0 0 0 [some (k_p 0 (i0)), some (k_i (a1))] []
  unfold f_X7_wasReversed at hoc
  refine r_aload_n h dX7_wasReversed_0 rfl ?_
  refine r_iload_n h dX7_wasReversed_1 rfl ?_
  rcases k_bt_ex hoc with ⟨v1, q2, hoc⟩ | ⟨e4, q2, hoc⟩
  · refine r_callV h hMe (rest := []) (as := [k_i (a1)]) (oc := .inl ((k_mR 5) v1, σ)) (j_X7_reportAt la hla G _ (i0) (a1) _ q2) kl_X7_104 dX7_wasReversed_2 rfl rfl rfl rfl rfl ⟨rfl, rfl, Nat.le_of_ble_eq_true rfl, Nat.le_of_ble_eq_true rfl, Nat.le_of_ble_eq_true rfl, Nat.le_of_ble_eq_true rfl, Nat.le_of_ble_eq_true rfl⟩ (fun E q => by cases q) (fun r s q => ?_)
    cases q
    show k_W X _ _ _ _ _ ([k_p 5 (v1)])
    refine r_getI h kf_X7_270 dX7_wasReversed_5 rfl rfl (by decide) rfl ?_
    obtain ⟨c3, hoc⟩ := k_gd hoc
    cases hoc
    exact r_ireturn h hEn dX7_wasReversed_8 rfl (k_n01 c3) rfl (by decide) (by decide)
  · refine r_callV h hMe (rest := []) (as := [k_i (a1)]) (oc := .inr e4) (j_X7_reportAt la hla G _ (i0) (a1) _ q2) kl_X7_104 dX7_wasReversed_2 rfl rfl rfl rfl rfl ⟨rfl, rfl, Nat.le_of_ble_eq_true rfl, Nat.le_of_ble_eq_true rfl, Nat.le_of_ble_eq_true rfl, Nat.le_of_ble_eq_true rfl, Nat.le_of_ble_eq_true rfl⟩ (fun E q => ?_) (fun r s q => by cases q)
    cases q
    cases hoc
    exact k_T.out h hEn hMe rfl (by decide) (by decide)
def f_X7_today (σ : k_S) (i0 : Nat) : Option Int32 :=
  some (k_I σ 0 (i0) (8))
theorem j_X7_today (la : Launch) (hla : la.flags = flags0) (G : k_G) (σ : k_S) (i0 : Nat) (x : Int32) (hoc : f_X7_today σ i0 = some x) : k_Ct la G yX7_today (k_ws yX7_today cX7_today 1 (Option.some ClassFile.FieldType.int)) { frames := 0, cells := 0, slots := 0, locals := 1 } [k_p 0 (i0)] σ (.inl (k_mI x, σ)) 0 0 := by
  refine k_body hla (by decide +kernel) (k_wl rfl) (Nat.le_of_ble_eq_true rfl) (fun X h hEn hMe => ?_)
  show k_W X σ 0 0 0 [some (k_p 0 (i0))] []
  unfold f_X7_today at hoc
  refine r_aload_n h dX7_today_0 rfl ?_
  refine r_getI h kf_X7_41 dX7_today_1 rfl rfl (by decide) rfl ?_
  cases hoc
  exact r_ireturn h hEn dX7_today_4 rfl rfl rfl (by decide) (by decide)
def f_X7_pass_l1 (t : Nat) (i0 : Nat) (a1 : Int32) (b2 : Int32) (σ : k_S) (x3 : Int32) (x4 : Int32) : Option (Int32 × Int32) := match t with
  | 0 => none
  | t + 1 => (if k_P σ 0 (i0) (4) = some 0 then (if (nI (k_Z σ 16)) ≤ x4 then some ((x3, x4)) else (if 0 ≤ x4 ∧ (x4 : Int32).toNatClampNeg < k_Z σ 16 ∧ k_Z σ 16 ≤ 200 then ((k_P σ 16 (0) ((x4 : Int32).toNatClampNeg)).bind fun j8 => ((f_X4_includes σ (j8) (b2)).bind fun v10 => (if v10 = 0 then f_X7_pass_l1 t i0 a1 b2 σ (x3) ((x4 + 1)) else ((f_X4_includes σ (j8) (k_I σ 0 (i0) (8))).bind fun v13 => (if v13 = 0 then f_X7_pass_l1 t i0 a1 b2 σ ((x3 + 1)) ((x4 + 1)) else f_X7_pass_l1 t i0 a1 b2 σ (x3) ((x4 + 1))))))) else none)) else none)
theorem j_X7_pass_l1 (la : Launch) (hla : la.flags = flags0) (G : k_G) (X : k_X) (σ0 σ : k_S) (h : k_Ok X RX7 cX7_pass 6) (hMe : k_Me X la G σ0 { frames := 7, cells := 2, slots := 12, locals := 104 } "pass") (i0 : Nat) (a1 : Int32) (b2 : Int32) : ∀ (t : Nat) (x3 : Int32) (x4 : Int32) (e : (Int32 × Int32)), f_X7_pass_l1 t i0 a1 b2 σ x3 x4 = some e → k_W X σ 1 6 106 [some (k_p 0 (i0)), some (k_i (a1)), some (k_i (b2)), some (k_i (e.1)), some (k_i (e.2)), none] [] → k_W X σ 1 6 50 [some (k_p 0 (i0)), some (k_i (a1)), some (k_i (b2)), some (k_i (x3)), some (k_i (x4)), none] [] := by
  intro t
  induction t with
  | zero =>
    intro x3 x4 e hoc kk
    cases hoc
  | succ t ih =>
    intro x3 x4 e hoc kk
    rw [f_X7_pass_l1] at hoc
    refine r_iload h dX7_pass_50 rfl ?_
    refine r_aload_n h dX7_pass_52 rfl ?_
    obtain ⟨q5, hoc⟩ := k_gd hoc
    refine r_getR h kf_X7_25 dX7_pass_53 rfl rfl (by decide) rfl (Eq.trans rfl q5) ?_
    refine r_callL h hMe (rest := [k_i (x4)]) (as := []) (j_size la hla G _ 16 rfl) kl_X7_52 dX7_pass_56 rfl rfl rfl rfl ⟨rfl, rfl, Nat.le_of_ble_eq_true rfl, Nat.le_of_ble_eq_true rfl, Nat.le_of_ble_eq_true rfl, Nat.le_of_ble_eq_true rfl, Nat.le_of_ble_eq_true rfl⟩ (fun E q => by cases q) (fun r s q => ?_)
    cases q
    refine r_icmp_ge (tgt := 106) h dX7_pass_59 (by decide) (fun c6 => ?_) (fun c6 => ?_)
    · replace hoc := (if_pos c6).symm.trans hoc
      cases hoc
      exact kk
    · replace hoc := (if_neg c6).symm.trans hoc
      refine r_aload_n h dX7_pass_62 rfl ?_
      refine r_getR h kf_X7_25 dX7_pass_63 rfl rfl (by decide) rfl (Eq.trans rfl q5) ?_
      refine r_iload h dX7_pass_66 rfl ?_
      obtain ⟨c7, hoc⟩ := k_gd hoc
      obtain ⟨j8, q9, hoc⟩ := k_ob hoc
      refine r_lget h hla hMe (rest := []) c7 (Eq.trans rfl q9) rfl kl_X7_117 dX7_pass_68 ⟨Nat.le_of_ble_eq_true rfl, Nat.le_of_ble_eq_true rfl, Nat.le_of_ble_eq_true rfl, Nat.le_of_ble_eq_true rfl, Nat.le_of_ble_eq_true rfl⟩ ?_
      refine r_cast1 h dX7_pass_71 wd_149 rfl rfl rfl ?_
      refine r_astore (L' := [some (k_p 0 (i0)), some (k_i (a1)), some (k_i (b2)), some (k_i (x3)), some (k_i (x4)), some (k_p 6 (j8))]) h dX7_pass_74 (by decide) rfl ?_
      refine r_aload h dX7_pass_76 rfl ?_
      refine r_iload_n h dX7_pass_78 rfl ?_
      obtain ⟨v10, q11, hoc⟩ := k_ob hoc
      refine r_callV h hMe (rest := []) (as := [k_i (b2)]) (oc := .inl (k_mI v10, σ)) (j_X4_includes la hla G _ (j8) (b2) _ q11) kl_X7_149 dX7_pass_79 rfl rfl rfl rfl rfl ⟨rfl, rfl, Nat.le_of_ble_eq_true rfl, Nat.le_of_ble_eq_true rfl, Nat.le_of_ble_eq_true rfl, Nat.le_of_ble_eq_true rfl, Nat.le_of_ble_eq_true rfl⟩ (fun E q => by cases q) (fun r s q => ?_)
      cases q
      show k_W X _ _ _ _ _ ([k_i (v10)])
      refine r_if_eq (tgt := 100) h dX7_pass_82 (by decide) (fun c12 => ?_) (fun c12 => ?_)
      · replace hoc := (if_pos c12).symm.trans hoc
        refine r_iinc (v := (x4 + 1)) (L' := [some (k_p 0 (i0)), some (k_i (a1)), some (k_i (b2)), some (k_i (x3)), some (k_i ((x4 + 1))), some (k_p 6 (j8))]) h dX7_pass_100 rfl rfl (by decide) rfl ?_
        refine r_goto (tgt := 50) h dX7_pass_103 (by decide) ?_
        exact r_forget (L' := [some (k_p 0 (i0)), some (k_i (a1)), some (k_i (b2)), some (k_i (x3)), some (k_i ((x4 + 1))), none]) (k_le_ok ⟨rfl, ⟨rfl, ⟨rfl, ⟨rfl, ⟨rfl, trivial⟩⟩⟩⟩⟩) (ih (x3) ((x4 + 1)) _ hoc kk)
      · replace hoc := (if_neg c12).symm.trans hoc
        refine r_aload h dX7_pass_85 rfl ?_
        refine r_aload_n h dX7_pass_87 rfl ?_
        refine r_getI h kf_X7_41 dX7_pass_88 rfl rfl (by decide) rfl ?_
        obtain ⟨v13, q14, hoc⟩ := k_ob hoc
        refine r_callV h hMe (rest := []) (as := [k_i (k_I σ 0 (i0) (8))]) (oc := .inl (k_mI v13, σ)) (j_X4_includes la hla G _ (j8) (k_I σ 0 (i0) (8)) _ q14) kl_X7_149 dX7_pass_91 rfl rfl rfl rfl rfl ⟨rfl, rfl, Nat.le_of_ble_eq_true rfl, Nat.le_of_ble_eq_true rfl, Nat.le_of_ble_eq_true rfl, Nat.le_of_ble_eq_true rfl, Nat.le_of_ble_eq_true rfl⟩ (fun E q => by cases q) (fun r s q => ?_)
        cases q
        show k_W X _ _ _ _ _ ([k_i (v13)])
        refine r_if_ne (tgt := 100) h dX7_pass_94 (by decide) (fun c15 => ?_) (fun c15 => ?_)
        · replace hoc := (if_neg c15).symm.trans hoc
          refine r_iinc (v := (x4 + 1)) (L' := [some (k_p 0 (i0)), some (k_i (a1)), some (k_i (b2)), some (k_i (x3)), some (k_i ((x4 + 1))), some (k_p 6 (j8))]) h dX7_pass_100 rfl rfl (by decide) rfl ?_
          refine r_goto (tgt := 50) h dX7_pass_103 (by decide) ?_
          exact r_forget (L' := [some (k_p 0 (i0)), some (k_i (a1)), some (k_i (b2)), some (k_i (x3)), some (k_i ((x4 + 1))), none]) (k_le_ok ⟨rfl, ⟨rfl, ⟨rfl, ⟨rfl, ⟨rfl, trivial⟩⟩⟩⟩⟩) (ih (x3) ((x4 + 1)) _ hoc kk)
        · replace hoc := (if_pos c15).symm.trans hoc
          refine r_iinc (v := (x3 + 1)) (L' := [some (k_p 0 (i0)), some (k_i (a1)), some (k_i (b2)), some (k_i ((x3 + 1))), some (k_i (x4)), some (k_p 6 (j8))]) h dX7_pass_97 rfl rfl (by decide) rfl ?_
          refine r_iinc (v := (x4 + 1)) (L' := [some (k_p 0 (i0)), some (k_i (a1)), some (k_i (b2)), some (k_i ((x3 + 1))), some (k_i ((x4 + 1))), some (k_p 6 (j8))]) h dX7_pass_100 rfl rfl (by decide) rfl ?_
          refine r_goto (tgt := 50) h dX7_pass_103 (by decide) ?_
          exact r_forget (L' := [some (k_p 0 (i0)), some (k_i (a1)), some (k_i (b2)), some (k_i ((x3 + 1))), some (k_i ((x4 + 1))), none]) (k_le_ok ⟨rfl, ⟨rfl, ⟨rfl, ⟨rfl, ⟨rfl, trivial⟩⟩⟩⟩⟩) (ih ((x3 + 1)) ((x4 + 1)) _ hoc kk)
def f_X7_pass (σ : k_S) (i0 : Nat) (a1 : Int32) : Option ((Int32 × k_S) ⊕ String) :=
  (k_bt (f_X7_requireWithin σ (a1) (1) (100)) fun v1 => (if (k_I σ 0 (i0) (8) + a1) ≤ (1000 : Int32) then ((f_X7_pass_l1 200 i0 a1 (k_I σ 0 (i0) (8)) (k_uI σ 0 (i0) (8) ((k_I σ 0 (i0) (8) + a1))) (0) (0)).bind fun v16 => some (.inl (v16.1, (k_uI σ 0 (i0) (8) ((k_I σ 0 (i0) (8) + a1)))))) else some (.inr "java/lang/IllegalStateException")))
theorem j_X7_pass (la : Launch) (hla : la.flags = flags0) (G : k_G) (σ : k_S) (i0 : Nat) (a1 : Int32) (x : ((Int32 × k_S) ⊕ String)) (hoc : f_X7_pass σ i0 a1 = some x) : k_Ct la G yX7_pass (k_ws yX7_pass cX7_pass 6 (Option.some ClassFile.FieldType.int)) { frames := 7, cells := 2, slots := 12, locals := 104 } [k_p 0 (i0), k_i (a1)] σ (k_mc k_mI x) 2 12 := by
  refine k_body hla (by decide +kernel) (k_wl rfl) (Nat.le_of_ble_eq_true rfl) (fun X h hEn hMe => ?_)
  show k_W X σ 0 0 0 [some (k_p 0 (i0)), some (k_i (a1)), none, none, none, none] []
  unfold f_X7_pass at hoc
  refine r_iload_n h dX7_pass_0 rfl ?_
  refine r_iconst (v := 1) h dX7_pass_1 (by decide) ?_
  refine r_bipush (v := 100) h dX7_pass_2 (by decide) ?_
  rcases k_bt_ex hoc with ⟨v1, q2, hoc⟩ | ⟨e18, q2, hoc⟩
  · refine r_callS h hMe (rest := []) (as := [k_i (a1), k_i (1), k_i (100)]) (oc := .inl (k_mU v1, σ)) (j_X7_requireWithin la hla G _ (a1) (1) (100) _ q2) kl_X7_48 dX7_pass_4 rfl rfl  ⟨rfl, rfl, Nat.le_of_ble_eq_true rfl, Nat.le_of_ble_eq_true rfl, Nat.le_of_ble_eq_true rfl, Nat.le_of_ble_eq_true rfl, Nat.le_of_ble_eq_true rfl⟩ (fun E q => by cases q) (fun r s q => ?_)
    cases q
    show k_W X _ _ _ _ _ ([])
    refine r_aload_n h dX7_pass_7 rfl ?_
    refine r_getI h kf_X7_41 dX7_pass_8 rfl rfl (by decide) rfl ?_
    refine r_iload_n h dX7_pass_11 rfl ?_
    refine r_iadd h dX7_pass_12 ?_
    refine r_sipush (v := 1000) h dX7_pass_13 (by decide) ?_
    refine r_icmp_le (tgt := 30) h dX7_pass_16 (by decide) (fun c3 => ?_) (fun c3 => ?_)
    · replace hoc := (if_pos c3).symm.trans hoc
      refine r_aload_n h dX7_pass_30 rfl ?_
      refine r_getI h kf_X7_41 dX7_pass_31 rfl rfl (by decide) rfl ?_
      refine r_istore_n (L' := [some (k_p 0 (i0)), some (k_i (a1)), some (k_i (k_I σ 0 (i0) (8))), none, none, none]) h dX7_pass_34 (by decide) rfl ?_
      refine r_aload_n h dX7_pass_35 rfl ?_
      refine r_dup h dX7_pass_36 rfl ?_
      refine r_getI h kf_X7_41 dX7_pass_37 rfl rfl (by decide) rfl ?_
      refine r_iload_n h dX7_pass_40 rfl ?_
      refine r_iadd h dX7_pass_41 ?_
      refine r_putI (x := (k_I σ 0 (i0) (8) + a1)) h kp_X7_41 dX7_pass_42 rfl rfl (by decide) rfl rfl (k_fit_int _) ?_
      refine r_iconst (v := 0) h dX7_pass_45 (by decide) ?_
      refine r_istore_n (L' := [some (k_p 0 (i0)), some (k_i (a1)), some (k_i (k_I σ 0 (i0) (8))), some (k_i (0)), none, none]) h dX7_pass_46 (by decide) rfl ?_
      refine r_iconst (v := 0) h dX7_pass_47 (by decide) ?_
      refine r_istore (L' := [some (k_p 0 (i0)), some (k_i (a1)), some (k_i (k_I σ 0 (i0) (8))), some (k_i (0)), some (k_i (0)), none]) h dX7_pass_48 (by decide) rfl ?_
      obtain ⟨v16, q17, hoc⟩ := k_ob hoc
      refine j_X7_pass_l1 la hla G X σ (k_uI σ 0 (i0) (8) ((k_I σ 0 (i0) (8) + a1))) h hMe i0 a1 (k_I σ 0 (i0) (8)) 200 (0) (0) _ q17 ?_
      refine r_iload_n h dX7_pass_106 rfl ?_
      cases hoc
      exact r_ireturn h hEn dX7_pass_107 rfl rfl rfl (by decide) (by decide)
    · replace hoc := (if_neg c3).symm.trans hoc
      cases hoc
      exact r_throwW h hEn hMe kt_X7_86_273 dX7_pass_19 dX7_pass_22 dX7_pass_23 dX7_pass_26 dX7_pass_29 rfl (by decide) (by decide) (by decide)
  · refine r_callS h hMe (rest := []) (as := [k_i (a1), k_i (1), k_i (100)]) (oc := .inr e18) (j_X7_requireWithin la hla G _ (a1) (1) (100) _ q2) kl_X7_48 dX7_pass_4 rfl rfl  ⟨rfl, rfl, Nat.le_of_ble_eq_true rfl, Nat.le_of_ble_eq_true rfl, Nat.le_of_ble_eq_true rfl, Nat.le_of_ble_eq_true rfl, Nat.le_of_ble_eq_true rfl⟩ (fun E q => ?_) (fun r s q => by cases q)
    cases q
    cases hoc
    exact k_T.out h hEn hMe rfl (by decide) (by decide)
def f_X7_decisions (σ : k_S) (i0 : Nat) : Option Int32 :=
  ((k_P σ 0 (i0) (6)).bind fun j1 => some (k_I σ 8 (j1) (2)))
theorem j_X7_decisions (la : Launch) (hla : la.flags = flags0) (G : k_G) (σ : k_S) (i0 : Nat) (x : Int32) (hoc : f_X7_decisions σ i0 = some x) : k_Ct la G yX7_decisions (k_ws yX7_decisions cX7_decisions 1 (Option.some ClassFile.FieldType.int)) { frames := 0, cells := 0, slots := 0, locals := 1 } [k_p 0 (i0)] σ (.inl (k_mI x, σ)) 0 0 := by
  refine k_body hla (by decide +kernel) (k_wl rfl) (Nat.le_of_ble_eq_true rfl) (fun X h hEn hMe => ?_)
  show k_W X σ 0 0 0 [some (k_p 0 (i0))] []
  unfold f_X7_decisions at hoc
  refine r_aload_n h dX7_decisions_0 rfl ?_
  obtain ⟨j1, q2, hoc⟩ := k_ob hoc
  refine r_getR h kf_X7_34 dX7_decisions_1 rfl rfl (by decide) rfl (Eq.trans rfl q2) ?_
  refine r_getI h kf_X7_275 dX7_decisions_4 rfl rfl (by decide) rfl ?_
  cases hoc
  exact r_ireturn h hEn dX7_decisions_7 rfl rfl rfl (by decide) (by decide)
def f_X7_likeness (σ : k_S) (i0 : Nat) (a1 : Int32) (a2 : Int32) : Option (Int32 ⊕ String) :=
  (k_bt (f_X7_reportAt σ (i0) (a1)) fun v1 => (k_bt (f_X7_reportAt σ (i0) (a2)) fun v3 => ((f_X7_commonKinds σ (v1) (v3)).bind fun v5 => some (.inl (v5)))))
theorem j_X7_likeness (la : Launch) (hla : la.flags = flags0) (G : k_G) (σ : k_S) (i0 : Nat) (a1 : Int32) (a2 : Int32) (x : (Int32 ⊕ String)) (hoc : f_X7_likeness σ i0 a1 a2 = some x) : k_Ct la G yX7_likeness (k_ws yX7_likeness cX7_likeness 3 (Option.some ClassFile.FieldType.int)) { frames := 8, cells := 2, slots := 12, locals := 124 } [k_p 0 (i0), k_i (a1), k_i (a2)] σ (k_tc k_mI σ x) 2 12 := by
  refine k_body hla (by decide +kernel) (k_wl rfl) (Nat.le_of_ble_eq_true rfl) (fun X h hEn hMe => ?_)
  show k_W X σ 0 0 0 [some (k_p 0 (i0)), some (k_i (a1)), some (k_i (a2))] []
  unfold f_X7_likeness at hoc
  refine r_aload_n h dX7_likeness_0 rfl ?_
  refine r_iload_n h dX7_likeness_1 rfl ?_
  rcases k_bt_ex hoc with ⟨v1, q2, hoc⟩ | ⟨e8, q2, hoc⟩
  · refine r_callV h hMe (rest := []) (as := [k_i (a1)]) (oc := .inl ((k_mR 5) v1, σ)) (j_X7_reportAt la hla G _ (i0) (a1) _ q2) kl_X7_104 dX7_likeness_2 rfl rfl rfl rfl rfl ⟨rfl, rfl, Nat.le_of_ble_eq_true rfl, Nat.le_of_ble_eq_true rfl, Nat.le_of_ble_eq_true rfl, Nat.le_of_ble_eq_true rfl, Nat.le_of_ble_eq_true rfl⟩ (fun E q => by cases q) (fun r s q => ?_)
    cases q
    show k_W X _ _ _ _ _ ([k_p 5 (v1)])
    refine r_aload_n h dX7_likeness_5 rfl ?_
    refine r_iload_n h dX7_likeness_6 rfl ?_
    rcases k_bt_ex hoc with ⟨v3, q4, hoc⟩ | ⟨e7, q4, hoc⟩
    · refine r_callV h hMe (rest := [k_p 5 (v1)]) (as := [k_i (a2)]) (oc := .inl ((k_mR 5) v3, σ)) (j_X7_reportAt la hla G _ (i0) (a2) _ q4) kl_X7_104 dX7_likeness_7 rfl rfl rfl rfl rfl ⟨rfl, rfl, Nat.le_of_ble_eq_true rfl, Nat.le_of_ble_eq_true rfl, Nat.le_of_ble_eq_true rfl, Nat.le_of_ble_eq_true rfl, Nat.le_of_ble_eq_true rfl⟩ (fun E q => by cases q) (fun r s q => ?_)
      cases q
      show k_W X _ _ _ _ _ ([k_p 5 (v3), k_p 5 (v1)])
      obtain ⟨v5, q6, hoc⟩ := k_ob hoc
      refine r_callS h hMe (rest := []) (as := [k_p 5 (v1), k_p 5 (v3)]) (oc := .inl (k_mI v5, σ)) (j_X7_commonKinds la hla G _ (v1) (v3) _ q6) kl_X7_278 dX7_likeness_10 rfl rfl  ⟨rfl, rfl, Nat.le_of_ble_eq_true rfl, Nat.le_of_ble_eq_true rfl, Nat.le_of_ble_eq_true rfl, Nat.le_of_ble_eq_true rfl, Nat.le_of_ble_eq_true rfl⟩ (fun E q => by cases q) (fun r s q => ?_)
      cases q
      show k_W X _ _ _ _ _ ([k_i (v5)])
      cases hoc
      exact r_ireturn h hEn dX7_likeness_13 rfl rfl rfl (by decide) (by decide)
    · refine r_callV h hMe (rest := [k_p 5 (v1)]) (as := [k_i (a2)]) (oc := .inr e7) (j_X7_reportAt la hla G _ (i0) (a2) _ q4) kl_X7_104 dX7_likeness_7 rfl rfl rfl rfl rfl ⟨rfl, rfl, Nat.le_of_ble_eq_true rfl, Nat.le_of_ble_eq_true rfl, Nat.le_of_ble_eq_true rfl, Nat.le_of_ble_eq_true rfl, Nat.le_of_ble_eq_true rfl⟩ (fun E q => ?_) (fun r s q => by cases q)
      cases q
      cases hoc
      exact k_T.out h hEn hMe rfl (by decide) (by decide)
  · refine r_callV h hMe (rest := []) (as := [k_i (a1)]) (oc := .inr e8) (j_X7_reportAt la hla G _ (i0) (a1) _ q2) kl_X7_104 dX7_likeness_2 rfl rfl rfl rfl rfl ⟨rfl, rfl, Nat.le_of_ble_eq_true rfl, Nat.le_of_ble_eq_true rfl, Nat.le_of_ble_eq_true rfl, Nat.le_of_ble_eq_true rfl, Nat.le_of_ble_eq_true rfl⟩ (fun E q => ?_) (fun r s q => by cases q)
    cases q
    cases hoc
    exact k_T.out h hEn hMe rfl (by decide) (by decide)
def f_X7_guiltyReports_l1 (t : Nat) (i0 : Nat) (σ : k_S) (x1 : Int32) (x2 : Int32) : Option (Int32 × Int32) := match t with
  | 0 => none
  | t + 1 => (if k_P σ 0 (i0) (3) = some 0 then (if (nI (k_Z σ 15)) ≤ x2 then some ((x1, x2)) else ((k_P σ 0 (i0) (6)).bind fun j4 => ((f_X5_outcomeOf σ (j4) (x2)).bind fun v6 => (if v6 = (103 : Int32) then f_X7_guiltyReports_l1 t i0 σ ((x1 + 1)) ((x2 + 1)) else f_X7_guiltyReports_l1 t i0 σ (x1) ((x2 + 1)))))) else none)
theorem j_X7_guiltyReports_l1 (la : Launch) (hla : la.flags = flags0) (G : k_G) (X : k_X) (σ0 σ : k_S) (h : k_Ok X RX7 cX7_guiltyReports 3) (hMe : k_Me X la G σ0 { frames := 2, cells := 0, slots := 0, locals := 43 } "guiltyReports") (i0 : Nat) : ∀ (t : Nat) (x1 : Int32) (x2 : Int32) (e : (Int32 × Int32)), f_X7_guiltyReports_l1 t i0 σ x1 x2 = some e → k_W X σ 0 0 37 [some (k_p 0 (i0)), some (k_i (e.1)), some (k_i (e.2))] [] → k_W X σ 0 0 4 [some (k_p 0 (i0)), some (k_i (x1)), some (k_i (x2))] [] := by
  intro t
  induction t with
  | zero =>
    intro x1 x2 e hoc kk
    cases hoc
  | succ t ih =>
    intro x1 x2 e hoc kk
    rw [f_X7_guiltyReports_l1] at hoc
    refine r_iload_n h dX7_guiltyReports_4 rfl ?_
    refine r_aload_n h dX7_guiltyReports_5 rfl ?_
    obtain ⟨q2, hoc⟩ := k_gd hoc
    refine r_getR h kf_X7_22 dX7_guiltyReports_6 rfl rfl (by decide) rfl (Eq.trans rfl q2) ?_
    refine r_callL h hMe (rest := [k_i (x2)]) (as := []) (j_size la hla G _ 15 rfl) kl_X7_52 dX7_guiltyReports_9 rfl rfl rfl rfl ⟨rfl, rfl, Nat.le_of_ble_eq_true rfl, Nat.le_of_ble_eq_true rfl, Nat.le_of_ble_eq_true rfl, Nat.le_of_ble_eq_true rfl, Nat.le_of_ble_eq_true rfl⟩ (fun E q => by cases q) (fun r s q => ?_)
    cases q
    refine r_icmp_ge (tgt := 37) h dX7_guiltyReports_12 (by decide) (fun c3 => ?_) (fun c3 => ?_)
    · replace hoc := (if_pos c3).symm.trans hoc
      cases hoc
      exact kk
    · replace hoc := (if_neg c3).symm.trans hoc
      refine r_aload_n h dX7_guiltyReports_15 rfl ?_
      obtain ⟨j4, q5, hoc⟩ := k_ob hoc
      refine r_getR h kf_X7_34 dX7_guiltyReports_16 rfl rfl (by decide) rfl (Eq.trans rfl q5) ?_
      refine r_iload_n h dX7_guiltyReports_19 rfl ?_
      obtain ⟨v6, q7, hoc⟩ := k_ob hoc
      refine r_callV h hMe (rest := []) (as := [k_i (x2)]) (oc := .inl (k_mI v6, σ)) (j_X5_outcomeOf la hla G _ (j4) (x2) _ q7) kl_X7_230 dX7_guiltyReports_20 rfl rfl rfl rfl rfl ⟨rfl, rfl, Nat.le_of_ble_eq_true rfl, Nat.le_of_ble_eq_true rfl, Nat.le_of_ble_eq_true rfl, Nat.le_of_ble_eq_true rfl, Nat.le_of_ble_eq_true rfl⟩ (fun E q => by cases q) (fun r s q => ?_)
      cases q
      show k_W X _ _ _ _ _ ([k_i (v6)])
      refine r_bipush (v := 103) h dX7_guiltyReports_23 (by decide) ?_
      refine r_icmp_ne (tgt := 31) h dX7_guiltyReports_25 (by decide) (fun c8 => ?_) (fun c8 => ?_)
      · replace hoc := (if_neg c8).symm.trans hoc
        refine r_iinc (v := (x2 + 1)) (L' := [some (k_p 0 (i0)), some (k_i (x1)), some (k_i ((x2 + 1)))]) h dX7_guiltyReports_31 rfl rfl (by decide) rfl ?_
        refine r_goto (tgt := 4) h dX7_guiltyReports_34 (by decide) ?_
        exact r_forget (L' := [some (k_p 0 (i0)), some (k_i (x1)), some (k_i ((x2 + 1)))]) (k_le_ok ⟨rfl, ⟨rfl, ⟨rfl, trivial⟩⟩⟩) (ih (x1) ((x2 + 1)) _ hoc kk)
      · replace hoc := (if_pos c8).symm.trans hoc
        refine r_iinc (v := (x1 + 1)) (L' := [some (k_p 0 (i0)), some (k_i ((x1 + 1))), some (k_i (x2))]) h dX7_guiltyReports_28 rfl rfl (by decide) rfl ?_
        refine r_iinc (v := (x2 + 1)) (L' := [some (k_p 0 (i0)), some (k_i ((x1 + 1))), some (k_i ((x2 + 1)))]) h dX7_guiltyReports_31 rfl rfl (by decide) rfl ?_
        refine r_goto (tgt := 4) h dX7_guiltyReports_34 (by decide) ?_
        exact r_forget (L' := [some (k_p 0 (i0)), some (k_i ((x1 + 1))), some (k_i ((x2 + 1)))]) (k_le_ok ⟨rfl, ⟨rfl, ⟨rfl, trivial⟩⟩⟩) (ih ((x1 + 1)) ((x2 + 1)) _ hoc kk)
def f_X7_guiltyReports (σ : k_S) (i0 : Nat) : Option Int32 :=
  ((f_X7_guiltyReports_l1 200 i0 σ (0) (0)).bind fun v9 => some (v9.1))
theorem j_X7_guiltyReports (la : Launch) (hla : la.flags = flags0) (G : k_G) (σ : k_S) (i0 : Nat) (x : Int32) (hoc : f_X7_guiltyReports σ i0 = some x) : k_Ct la G yX7_guiltyReports (k_ws yX7_guiltyReports cX7_guiltyReports 3 (Option.some ClassFile.FieldType.int)) { frames := 2, cells := 0, slots := 0, locals := 43 } [k_p 0 (i0)] σ (.inl (k_mI x, σ)) 0 0 := by
  refine k_body hla (by decide +kernel) (k_wl rfl) (Nat.le_of_ble_eq_true rfl) (fun X h hEn hMe => ?_)
  show k_W X σ 0 0 0 [some (k_p 0 (i0)), none, none] []
  unfold f_X7_guiltyReports at hoc
  refine r_iconst (v := 0) h dX7_guiltyReports_0 (by decide) ?_
  refine r_istore_n (L' := [some (k_p 0 (i0)), some (k_i (0)), none]) h dX7_guiltyReports_1 (by decide) rfl ?_
  refine r_iconst (v := 0) h dX7_guiltyReports_2 (by decide) ?_
  refine r_istore_n (L' := [some (k_p 0 (i0)), some (k_i (0)), some (k_i (0))]) h dX7_guiltyReports_3 (by decide) rfl ?_
  obtain ⟨v9, q10, hoc⟩ := k_ob hoc
  refine j_X7_guiltyReports_l1 la hla G X σ σ h hMe i0 200 (0) (0) _ q10 ?_
  refine r_iload_n h dX7_guiltyReports_37 rfl ?_
  cases hoc
  exact r_ireturn h hEn dX7_guiltyReports_38 rfl rfl rfl (by decide) (by decide)
def f_X7_reportsByBots_l1 (t : Nat) (i0 : Nat) (σ : k_S) (x1 : Int32) (x2 : Int32) : Option (Int32 × Int32) := match t with
  | 0 => none
  | t + 1 => (if k_P σ 0 (i0) (3) = some 0 then (if (nI (k_Z σ 15)) ≤ x2 then some ((x1, x2)) else (if 0 ≤ x2 ∧ (x2 : Int32).toNatClampNeg < k_Z σ 15 ∧ k_Z σ 15 ≤ 200 then ((k_P σ 15 (0) ((x2 : Int32).toNatClampNeg)).bind fun j5 => ((f_X2_standsByBot σ (j5)).bind fun v7 => (if v7 = 0 then f_X7_reportsByBots_l1 t i0 σ (x1) ((x2 + 1)) else f_X7_reportsByBots_l1 t i0 σ ((x1 + 1)) ((x2 + 1))))) else none)) else none)
theorem j_X7_reportsByBots_l1 (la : Launch) (hla : la.flags = flags0) (G : k_G) (X : k_X) (σ0 σ : k_S) (h : k_Ok X RX7 cX7_reportsByBots 3) (hMe : k_Me X la G σ0 { frames := 3, cells := 0, slots := 0, locals := 71 } "reportsByBots") (i0 : Nat) : ∀ (t : Nat) (x1 : Int32) (x2 : Int32) (e : (Int32 × Int32)), f_X7_reportsByBots_l1 t i0 σ x1 x2 = some e → k_W X σ 0 0 41 [some (k_p 0 (i0)), some (k_i (e.1)), some (k_i (e.2))] [] → k_W X σ 0 0 4 [some (k_p 0 (i0)), some (k_i (x1)), some (k_i (x2))] [] := by
  intro t
  induction t with
  | zero =>
    intro x1 x2 e hoc kk
    cases hoc
  | succ t ih =>
    intro x1 x2 e hoc kk
    rw [f_X7_reportsByBots_l1] at hoc
    refine r_iload_n h dX7_reportsByBots_4 rfl ?_
    refine r_aload_n h dX7_reportsByBots_5 rfl ?_
    obtain ⟨q2, hoc⟩ := k_gd hoc
    refine r_getR h kf_X7_22 dX7_reportsByBots_6 rfl rfl (by decide) rfl (Eq.trans rfl q2) ?_
    refine r_callL h hMe (rest := [k_i (x2)]) (as := []) (j_size la hla G _ 15 rfl) kl_X7_52 dX7_reportsByBots_9 rfl rfl rfl rfl ⟨rfl, rfl, Nat.le_of_ble_eq_true rfl, Nat.le_of_ble_eq_true rfl, Nat.le_of_ble_eq_true rfl, Nat.le_of_ble_eq_true rfl, Nat.le_of_ble_eq_true rfl⟩ (fun E q => by cases q) (fun r s q => ?_)
    cases q
    refine r_icmp_ge (tgt := 41) h dX7_reportsByBots_12 (by decide) (fun c3 => ?_) (fun c3 => ?_)
    · replace hoc := (if_pos c3).symm.trans hoc
      cases hoc
      exact kk
    · replace hoc := (if_neg c3).symm.trans hoc
      refine r_aload_n h dX7_reportsByBots_15 rfl ?_
      refine r_getR h kf_X7_22 dX7_reportsByBots_16 rfl rfl (by decide) rfl (Eq.trans rfl q2) ?_
      refine r_iload_n h dX7_reportsByBots_19 rfl ?_
      obtain ⟨c4, hoc⟩ := k_gd hoc
      obtain ⟨j5, q6, hoc⟩ := k_ob hoc
      refine r_lget h hla hMe (rest := []) c4 (Eq.trans rfl q6) rfl kl_X7_117 dX7_reportsByBots_20 ⟨Nat.le_of_ble_eq_true rfl, Nat.le_of_ble_eq_true rfl, Nat.le_of_ble_eq_true rfl, Nat.le_of_ble_eq_true rfl, Nat.le_of_ble_eq_true rfl⟩ ?_
      refine r_cast1 h dX7_reportsByBots_23 wd_204 rfl rfl rfl ?_
      obtain ⟨v7, q8, hoc⟩ := k_ob hoc
      refine r_callV h hMe (rest := []) (as := []) (oc := .inl (k_mI v7, σ)) (j_X2_standsByBot la hla G _ (j5) _ q8) kl_X7_237 dX7_reportsByBots_26 rfl rfl rfl rfl rfl ⟨rfl, rfl, Nat.le_of_ble_eq_true rfl, Nat.le_of_ble_eq_true rfl, Nat.le_of_ble_eq_true rfl, Nat.le_of_ble_eq_true rfl, Nat.le_of_ble_eq_true rfl⟩ (fun E q => by cases q) (fun r s q => ?_)
      cases q
      show k_W X _ _ _ _ _ ([k_i (v7)])
      refine r_if_eq (tgt := 35) h dX7_reportsByBots_29 (by decide) (fun c9 => ?_) (fun c9 => ?_)
      · replace hoc := (if_pos c9).symm.trans hoc
        refine r_iinc (v := (x2 + 1)) (L' := [some (k_p 0 (i0)), some (k_i (x1)), some (k_i ((x2 + 1)))]) h dX7_reportsByBots_35 rfl rfl (by decide) rfl ?_
        refine r_goto (tgt := 4) h dX7_reportsByBots_38 (by decide) ?_
        exact r_forget (L' := [some (k_p 0 (i0)), some (k_i (x1)), some (k_i ((x2 + 1)))]) (k_le_ok ⟨rfl, ⟨rfl, ⟨rfl, trivial⟩⟩⟩) (ih (x1) ((x2 + 1)) _ hoc kk)
      · replace hoc := (if_neg c9).symm.trans hoc
        refine r_iinc (v := (x1 + 1)) (L' := [some (k_p 0 (i0)), some (k_i ((x1 + 1))), some (k_i (x2))]) h dX7_reportsByBots_32 rfl rfl (by decide) rfl ?_
        refine r_iinc (v := (x2 + 1)) (L' := [some (k_p 0 (i0)), some (k_i ((x1 + 1))), some (k_i ((x2 + 1)))]) h dX7_reportsByBots_35 rfl rfl (by decide) rfl ?_
        refine r_goto (tgt := 4) h dX7_reportsByBots_38 (by decide) ?_
        exact r_forget (L' := [some (k_p 0 (i0)), some (k_i ((x1 + 1))), some (k_i ((x2 + 1)))]) (k_le_ok ⟨rfl, ⟨rfl, ⟨rfl, trivial⟩⟩⟩) (ih ((x1 + 1)) ((x2 + 1)) _ hoc kk)
def f_X7_reportsByBots (σ : k_S) (i0 : Nat) : Option Int32 :=
  ((f_X7_reportsByBots_l1 200 i0 σ (0) (0)).bind fun v10 => some (v10.1))
theorem j_X7_reportsByBots (la : Launch) (hla : la.flags = flags0) (G : k_G) (σ : k_S) (i0 : Nat) (x : Int32) (hoc : f_X7_reportsByBots σ i0 = some x) : k_Ct la G yX7_reportsByBots (k_ws yX7_reportsByBots cX7_reportsByBots 3 (Option.some ClassFile.FieldType.int)) { frames := 3, cells := 0, slots := 0, locals := 71 } [k_p 0 (i0)] σ (.inl (k_mI x, σ)) 0 0 := by
  refine k_body hla (by decide +kernel) (k_wl rfl) (Nat.le_of_ble_eq_true rfl) (fun X h hEn hMe => ?_)
  show k_W X σ 0 0 0 [some (k_p 0 (i0)), none, none] []
  unfold f_X7_reportsByBots at hoc
  refine r_iconst (v := 0) h dX7_reportsByBots_0 (by decide) ?_
  refine r_istore_n (L' := [some (k_p 0 (i0)), some (k_i (0)), none]) h dX7_reportsByBots_1 (by decide) rfl ?_
  refine r_iconst (v := 0) h dX7_reportsByBots_2 (by decide) ?_
  refine r_istore_n (L' := [some (k_p 0 (i0)), some (k_i (0)), some (k_i (0))]) h dX7_reportsByBots_3 (by decide) rfl ?_
  obtain ⟨v10, q11, hoc⟩ := k_ob hoc
  refine j_X7_reportsByBots_l1 la hla G X σ σ h hMe i0 200 (0) (0) _ q11 ?_
  refine r_iload_n h dX7_reportsByBots_41 rfl ?_
  cases hoc
  exact r_ireturn h hEn dX7_reportsByBots_42 rfl rfl rfl (by decide) (by decide)
def f_X7_reversedReports_l1 (t : Nat) (i0 : Nat) (σ : k_S) (x1 : Int32) (x2 : Int32) : Option (Int32 × Int32) := match t with
  | 0 => none
  | t + 1 => (if k_P σ 0 (i0) (3) = some 0 then (if (nI (k_Z σ 15)) ≤ x2 then some ((x1, x2)) else (if 0 ≤ x2 ∧ (x2 : Int32).toNatClampNeg < k_Z σ 15 ∧ k_Z σ 15 ≤ 200 then ((k_P σ 15 (0) ((x2 : Int32).toNatClampNeg)).bind fun j5 => (if k_I σ 5 (j5) (12) = 0 then f_X7_reversedReports_l1 t i0 σ (x1) ((x2 + 1)) else f_X7_reversedReports_l1 t i0 σ ((x1 + 1)) ((x2 + 1)))) else none)) else none)
theorem j_X7_reversedReports_l1 (la : Launch) (hla : la.flags = flags0) (G : k_G) (X : k_X) (σ0 σ : k_S) (h : k_Ok X RX7 cX7_reversedReports 3) (hMe : k_Me X la G σ0 { frames := 3, cells := 0, slots := 0, locals := 71 } "reversedReports") (i0 : Nat) : ∀ (t : Nat) (x1 : Int32) (x2 : Int32) (e : (Int32 × Int32)), f_X7_reversedReports_l1 t i0 σ x1 x2 = some e → k_W X σ 0 0 41 [some (k_p 0 (i0)), some (k_i (e.1)), some (k_i (e.2))] [] → k_W X σ 0 0 4 [some (k_p 0 (i0)), some (k_i (x1)), some (k_i (x2))] [] := by
  intro t
  induction t with
  | zero =>
    intro x1 x2 e hoc kk
    cases hoc
  | succ t ih =>
    intro x1 x2 e hoc kk
    rw [f_X7_reversedReports_l1] at hoc
    refine r_iload_n h dX7_reversedReports_4 rfl ?_
    refine r_aload_n h dX7_reversedReports_5 rfl ?_
    obtain ⟨q2, hoc⟩ := k_gd hoc
    refine r_getR h kf_X7_22 dX7_reversedReports_6 rfl rfl (by decide) rfl (Eq.trans rfl q2) ?_
    refine r_callL h hMe (rest := [k_i (x2)]) (as := []) (j_size la hla G _ 15 rfl) kl_X7_52 dX7_reversedReports_9 rfl rfl rfl rfl ⟨rfl, rfl, Nat.le_of_ble_eq_true rfl, Nat.le_of_ble_eq_true rfl, Nat.le_of_ble_eq_true rfl, Nat.le_of_ble_eq_true rfl, Nat.le_of_ble_eq_true rfl⟩ (fun E q => by cases q) (fun r s q => ?_)
    cases q
    refine r_icmp_ge (tgt := 41) h dX7_reversedReports_12 (by decide) (fun c3 => ?_) (fun c3 => ?_)
    · replace hoc := (if_pos c3).symm.trans hoc
      cases hoc
      exact kk
    · replace hoc := (if_neg c3).symm.trans hoc
      refine r_aload_n h dX7_reversedReports_15 rfl ?_
      refine r_getR h kf_X7_22 dX7_reversedReports_16 rfl rfl (by decide) rfl (Eq.trans rfl q2) ?_
      refine r_iload_n h dX7_reversedReports_19 rfl ?_
      obtain ⟨c4, hoc⟩ := k_gd hoc
      obtain ⟨j5, q6, hoc⟩ := k_ob hoc
      refine r_lget h hla hMe (rest := []) c4 (Eq.trans rfl q6) rfl kl_X7_117 dX7_reversedReports_20 ⟨Nat.le_of_ble_eq_true rfl, Nat.le_of_ble_eq_true rfl, Nat.le_of_ble_eq_true rfl, Nat.le_of_ble_eq_true rfl, Nat.le_of_ble_eq_true rfl⟩ ?_
      refine r_cast1 h dX7_reversedReports_23 wd_204 rfl rfl rfl ?_
      refine r_getI h kf_X7_270 dX7_reversedReports_26 rfl rfl (by decide) rfl ?_
      refine r_if_eq (tgt := 35) h dX7_reversedReports_29 (by decide) (fun c7 => ?_) (fun c7 => ?_)
      · replace hoc := (if_pos c7).symm.trans hoc
        refine r_iinc (v := (x2 + 1)) (L' := [some (k_p 0 (i0)), some (k_i (x1)), some (k_i ((x2 + 1)))]) h dX7_reversedReports_35 rfl rfl (by decide) rfl ?_
        refine r_goto (tgt := 4) h dX7_reversedReports_38 (by decide) ?_
        exact r_forget (L' := [some (k_p 0 (i0)), some (k_i (x1)), some (k_i ((x2 + 1)))]) (k_le_ok ⟨rfl, ⟨rfl, ⟨rfl, trivial⟩⟩⟩) (ih (x1) ((x2 + 1)) _ hoc kk)
      · replace hoc := (if_neg c7).symm.trans hoc
        refine r_iinc (v := (x1 + 1)) (L' := [some (k_p 0 (i0)), some (k_i ((x1 + 1))), some (k_i (x2))]) h dX7_reversedReports_32 rfl rfl (by decide) rfl ?_
        refine r_iinc (v := (x2 + 1)) (L' := [some (k_p 0 (i0)), some (k_i ((x1 + 1))), some (k_i ((x2 + 1)))]) h dX7_reversedReports_35 rfl rfl (by decide) rfl ?_
        refine r_goto (tgt := 4) h dX7_reversedReports_38 (by decide) ?_
        exact r_forget (L' := [some (k_p 0 (i0)), some (k_i ((x1 + 1))), some (k_i ((x2 + 1)))]) (k_le_ok ⟨rfl, ⟨rfl, ⟨rfl, trivial⟩⟩⟩) (ih ((x1 + 1)) ((x2 + 1)) _ hoc kk)
def f_X7_reversedReports (σ : k_S) (i0 : Nat) : Option Int32 :=
  ((f_X7_reversedReports_l1 200 i0 σ (0) (0)).bind fun v8 => some (v8.1))
theorem j_X7_reversedReports (la : Launch) (hla : la.flags = flags0) (G : k_G) (σ : k_S) (i0 : Nat) (x : Int32) (hoc : f_X7_reversedReports σ i0 = some x) : k_Ct la G yX7_reversedReports (k_ws yX7_reversedReports cX7_reversedReports 3 (Option.some ClassFile.FieldType.int)) { frames := 3, cells := 0, slots := 0, locals := 71 } [k_p 0 (i0)] σ (.inl (k_mI x, σ)) 0 0 := by
  refine k_body hla (by decide +kernel) (k_wl rfl) (Nat.le_of_ble_eq_true rfl) (fun X h hEn hMe => ?_)
  show k_W X σ 0 0 0 [some (k_p 0 (i0)), none, none] []
  unfold f_X7_reversedReports at hoc
  refine r_iconst (v := 0) h dX7_reversedReports_0 (by decide) ?_
  refine r_istore_n (L' := [some (k_p 0 (i0)), some (k_i (0)), none]) h dX7_reversedReports_1 (by decide) rfl ?_
  refine r_iconst (v := 0) h dX7_reversedReports_2 (by decide) ?_
  refine r_istore_n (L' := [some (k_p 0 (i0)), some (k_i (0)), some (k_i (0))]) h dX7_reversedReports_3 (by decide) rfl ?_
  obtain ⟨v8, q9, hoc⟩ := k_ob hoc
  refine j_X7_reversedReports_l1 la hla G X σ σ h hMe i0 200 (0) (0) _ q9 ?_
  refine r_iload_n h dX7_reversedReports_41 rfl ?_
  cases hoc
  exact r_ireturn h hEn dX7_reversedReports_42 rfl rfl rfl (by decide) (by decide)
def f_X7_count (σ : k_S) (i0 : Nat) (a1 : Int32) : Option (Int32 ⊕ String) :=
  (if a1 = (111 : Int32) then ((f_X7_reportsInState σ (i0) (111)).bind fun v11 => some (.inl (v11))) else (if a1 = (103 : Int32) then ((f_X7_guiltyReports σ (i0)).bind fun v9 => some (.inl (v9))) else (if a1 = (98 : Int32) then ((f_X7_reportsByBots σ (i0)).bind fun v7 => some (.inl (v7))) else (if a1 = (114 : Int32) then ((f_X7_reversedReports σ (i0)).bind fun v5 => some (.inl (v5))) else some (.inr "java/lang/IllegalArgumentException")))))
theorem j_X7_count (la : Launch) (hla : la.flags = flags0) (G : k_G) (σ : k_S) (i0 : Nat) (a1 : Int32) (x : (Int32 ⊕ String)) (hoc : f_X7_count σ i0 a1 = some x) : k_Ct la G yX7_count (k_ws yX7_count cX7_count 2 (Option.some ClassFile.FieldType.int)) { frames := 6, cells := 1, slots := 6, locals := 94 } [k_p 0 (i0), k_i (a1)] σ (k_tc k_mI σ x) 1 6 := by
  refine k_body hla (by decide +kernel) (k_wl rfl) (Nat.le_of_ble_eq_true rfl) (fun X h hEn hMe => ?_)
  show k_W X σ 0 0 0 [some (k_p 0 (i0)), some (k_i (a1))] []
  unfold f_X7_count at hoc
  refine r_iload_n h dX7_count_0 rfl ?_
  refine r_bipush (v := 111) h dX7_count_1 (by decide) ?_
  refine r_icmp_ne (tgt := 13) h dX7_count_3 (by decide) (fun c1 => ?_) (fun c1 => ?_)
  · replace hoc := (if_neg c1).symm.trans hoc
    refine r_iload_n h dX7_count_13 rfl ?_
    refine r_bipush (v := 103) h dX7_count_14 (by decide) ?_
    refine r_icmp_ne (tgt := 24) h dX7_count_16 (by decide) (fun c2 => ?_) (fun c2 => ?_)
    · replace hoc := (if_neg c2).symm.trans hoc
      refine r_iload_n h dX7_count_24 rfl ?_
      refine r_bipush (v := 98) h dX7_count_25 (by decide) ?_
      refine r_icmp_ne (tgt := 35) h dX7_count_27 (by decide) (fun c3 => ?_) (fun c3 => ?_)
      · replace hoc := (if_neg c3).symm.trans hoc
        refine r_iload_n h dX7_count_35 rfl ?_
        refine r_bipush (v := 114) h dX7_count_36 (by decide) ?_
        refine r_icmp_ne (tgt := 46) h dX7_count_38 (by decide) (fun c4 => ?_) (fun c4 => ?_)
        · replace hoc := (if_neg c4).symm.trans hoc
          cases hoc
          exact r_throwW h hEn hMe kt_X7_163_291 dX7_count_46 dX7_count_49 dX7_count_50 dX7_count_53 dX7_count_56 rfl (by decide) (by decide) (by decide)
        · replace hoc := (if_pos c4).symm.trans hoc
          refine r_aload_n h dX7_count_41 rfl ?_
          obtain ⟨v5, q6, hoc⟩ := k_ob hoc
          refine r_callV h hMe (rest := []) (as := []) (oc := .inl (k_mI v5, σ)) (j_X7_reversedReports la hla G _ (i0) _ q6) kl_X7_288 dX7_count_42 rfl rfl rfl rfl rfl ⟨rfl, rfl, Nat.le_of_ble_eq_true rfl, Nat.le_of_ble_eq_true rfl, Nat.le_of_ble_eq_true rfl, Nat.le_of_ble_eq_true rfl, Nat.le_of_ble_eq_true rfl⟩ (fun E q => by cases q) (fun r s q => ?_)
          cases q
          show k_W X _ _ _ _ _ ([k_i (v5)])
          cases hoc
          exact r_ireturn h hEn dX7_count_45 rfl rfl rfl (by decide) (by decide)
      · replace hoc := (if_pos c3).symm.trans hoc
        refine r_aload_n h dX7_count_30 rfl ?_
        obtain ⟨v7, q8, hoc⟩ := k_ob hoc
        refine r_callV h hMe (rest := []) (as := []) (oc := .inl (k_mI v7, σ)) (j_X7_reportsByBots la hla G _ (i0) _ q8) kl_X7_285 dX7_count_31 rfl rfl rfl rfl rfl ⟨rfl, rfl, Nat.le_of_ble_eq_true rfl, Nat.le_of_ble_eq_true rfl, Nat.le_of_ble_eq_true rfl, Nat.le_of_ble_eq_true rfl, Nat.le_of_ble_eq_true rfl⟩ (fun E q => by cases q) (fun r s q => ?_)
        cases q
        show k_W X _ _ _ _ _ ([k_i (v7)])
        cases hoc
        exact r_ireturn h hEn dX7_count_34 rfl rfl rfl (by decide) (by decide)
    · replace hoc := (if_pos c2).symm.trans hoc
      refine r_aload_n h dX7_count_19 rfl ?_
      obtain ⟨v9, q10, hoc⟩ := k_ob hoc
      refine r_callV h hMe (rest := []) (as := []) (oc := .inl (k_mI v9, σ)) (j_X7_guiltyReports la hla G _ (i0) _ q10) kl_X7_282 dX7_count_20 rfl rfl rfl rfl rfl ⟨rfl, rfl, Nat.le_of_ble_eq_true rfl, Nat.le_of_ble_eq_true rfl, Nat.le_of_ble_eq_true rfl, Nat.le_of_ble_eq_true rfl, Nat.le_of_ble_eq_true rfl⟩ (fun E q => by cases q) (fun r s q => ?_)
      cases q
      show k_W X _ _ _ _ _ ([k_i (v9)])
      cases hoc
      exact r_ireturn h hEn dX7_count_23 rfl rfl rfl (by decide) (by decide)
  · replace hoc := (if_pos c1).symm.trans hoc
    refine r_aload_n h dX7_count_6 rfl ?_
    refine r_bipush (v := 111) h dX7_count_7 (by decide) ?_
    obtain ⟨v11, q12, hoc⟩ := k_ob hoc
    refine r_callV h hMe (rest := []) (as := [k_i (111)]) (oc := .inl (k_mI v11, σ)) (j_X7_reportsInState la hla G _ (i0) (111) _ q12) kl_X7_266 dX7_count_9 rfl rfl rfl rfl rfl ⟨rfl, rfl, Nat.le_of_ble_eq_true rfl, Nat.le_of_ble_eq_true rfl, Nat.le_of_ble_eq_true rfl, Nat.le_of_ble_eq_true rfl, Nat.le_of_ble_eq_true rfl⟩ (fun E q => by cases q) (fun r s q => ?_)
    cases q
    show k_W X _ _ _ _ _ ([k_i (v11)])
    cases hoc
    exact r_ireturn h hEn dX7_count_12 rfl rfl rfl (by decide) (by decide)
def f_X7_meanEvidence_l1 (t : Nat) (i0 : Nat) (b1 : Int32) (σ : k_S) (x2 : Int32) (x3 : Int32) : Option (Int32 × Int32) := match t with
  | 0 => none
  | t + 1 => (if k_P σ 0 (i0) (3) = some 0 then (if (nI (k_Z σ 15)) ≤ x3 then some ((x2, x3)) else ((k_P σ 0 (i0) (6)).bind fun j7 => ((f_X5_outcomeOf σ (j7) (x3)).bind fun v9 => (if v9 = (103 : Int32) then (if 0 ≤ x3 ∧ (x3 : Int32).toNatClampNeg < k_Z σ 15 ∧ k_Z σ 15 ≤ 200 then ((k_P σ 15 (0) ((x3 : Int32).toNatClampNeg)).bind fun j13 => f_X7_meanEvidence_l1 t i0 b1 σ ((x2 + k_I σ 5 (j13) (4))) ((x3 + 1))) else none) else f_X7_meanEvidence_l1 t i0 b1 σ (x2) ((x3 + 1)))))) else none)
theorem j_X7_meanEvidence_l1 (la : Launch) (hla : la.flags = flags0) (G : k_G) (X : k_X) (σ0 σ : k_S) (h : k_Ok X RX7 cX7_meanEvidence 4) (hMe : k_Me X la G σ0 { frames := 6, cells := 1, slots := 6, locals := 82 } "meanEvidence") (i0 : Nat) (b1 : Int32) : ∀ (t : Nat) (x2 : Int32) (x3 : Int32) (e : (Int32 × Int32)), f_X7_meanEvidence_l1 t i0 b1 σ x2 x3 = some e → k_W X σ 0 0 71 [some (k_p 0 (i0)), some (k_i (b1)), some (k_i (e.1)), some (k_i (e.2))] [] → k_W X σ 0 0 24 [some (k_p 0 (i0)), some (k_i (b1)), some (k_i (x2)), some (k_i (x3))] [] := by
  intro t
  induction t with
  | zero =>
    intro x2 x3 e hoc kk
    cases hoc
  | succ t ih =>
    intro x2 x3 e hoc kk
    rw [f_X7_meanEvidence_l1] at hoc
    refine r_iload_n h dX7_meanEvidence_24 rfl ?_
    refine r_aload_n h dX7_meanEvidence_25 rfl ?_
    obtain ⟨q5, hoc⟩ := k_gd hoc
    refine r_getR h kf_X7_22 dX7_meanEvidence_26 rfl rfl (by decide) rfl (Eq.trans rfl q5) ?_
    refine r_callL h hMe (rest := [k_i (x3)]) (as := []) (j_size la hla G _ 15 rfl) kl_X7_52 dX7_meanEvidence_29 rfl rfl rfl rfl ⟨rfl, rfl, Nat.le_of_ble_eq_true rfl, Nat.le_of_ble_eq_true rfl, Nat.le_of_ble_eq_true rfl, Nat.le_of_ble_eq_true rfl, Nat.le_of_ble_eq_true rfl⟩ (fun E q => by cases q) (fun r s q => ?_)
    cases q
    refine r_icmp_ge (tgt := 71) h dX7_meanEvidence_32 (by decide) (fun c6 => ?_) (fun c6 => ?_)
    · replace hoc := (if_pos c6).symm.trans hoc
      cases hoc
      exact kk
    · replace hoc := (if_neg c6).symm.trans hoc
      refine r_aload_n h dX7_meanEvidence_35 rfl ?_
      obtain ⟨j7, q8, hoc⟩ := k_ob hoc
      refine r_getR h kf_X7_34 dX7_meanEvidence_36 rfl rfl (by decide) rfl (Eq.trans rfl q8) ?_
      refine r_iload_n h dX7_meanEvidence_39 rfl ?_
      obtain ⟨v9, q10, hoc⟩ := k_ob hoc
      refine r_callV h hMe (rest := []) (as := [k_i (x3)]) (oc := .inl (k_mI v9, σ)) (j_X5_outcomeOf la hla G _ (j7) (x3) _ q10) kl_X7_230 dX7_meanEvidence_40 rfl rfl rfl rfl rfl ⟨rfl, rfl, Nat.le_of_ble_eq_true rfl, Nat.le_of_ble_eq_true rfl, Nat.le_of_ble_eq_true rfl, Nat.le_of_ble_eq_true rfl, Nat.le_of_ble_eq_true rfl⟩ (fun E q => by cases q) (fun r s q => ?_)
      cases q
      show k_W X _ _ _ _ _ ([k_i (v9)])
      refine r_bipush (v := 103) h dX7_meanEvidence_43 (by decide) ?_
      refine r_icmp_ne (tgt := 65) h dX7_meanEvidence_45 (by decide) (fun c11 => ?_) (fun c11 => ?_)
      · replace hoc := (if_neg c11).symm.trans hoc
        refine r_iinc (v := (x3 + 1)) (L' := [some (k_p 0 (i0)), some (k_i (b1)), some (k_i (x2)), some (k_i ((x3 + 1)))]) h dX7_meanEvidence_65 rfl rfl (by decide) rfl ?_
        refine r_goto (tgt := 24) h dX7_meanEvidence_68 (by decide) ?_
        exact r_forget (L' := [some (k_p 0 (i0)), some (k_i (b1)), some (k_i (x2)), some (k_i ((x3 + 1)))]) (k_le_ok ⟨rfl, ⟨rfl, ⟨rfl, ⟨rfl, trivial⟩⟩⟩⟩) (ih (x2) ((x3 + 1)) _ hoc kk)
      · replace hoc := (if_pos c11).symm.trans hoc
        refine r_iload_n h dX7_meanEvidence_48 rfl ?_
        refine r_aload_n h dX7_meanEvidence_49 rfl ?_
        refine r_getR h kf_X7_22 dX7_meanEvidence_50 rfl rfl (by decide) rfl (Eq.trans rfl q5) ?_
        refine r_iload_n h dX7_meanEvidence_53 rfl ?_
        obtain ⟨c12, hoc⟩ := k_gd hoc
        obtain ⟨j13, q14, hoc⟩ := k_ob hoc
        refine r_lget h hla hMe (rest := [k_i (x2)]) c12 (Eq.trans rfl q14) rfl kl_X7_117 dX7_meanEvidence_54 ⟨Nat.le_of_ble_eq_true rfl, Nat.le_of_ble_eq_true rfl, Nat.le_of_ble_eq_true rfl, Nat.le_of_ble_eq_true rfl, Nat.le_of_ble_eq_true rfl⟩ ?_
        refine r_cast1 h dX7_meanEvidence_57 wd_204 rfl rfl rfl ?_
        refine r_getI h kf_X7_298 dX7_meanEvidence_60 rfl rfl (by decide) rfl ?_
        refine r_iadd h dX7_meanEvidence_63 ?_
        refine r_istore_n (L' := [some (k_p 0 (i0)), some (k_i (b1)), some (k_i ((x2 + k_I σ 5 (j13) (4)))), some (k_i (x3))]) h dX7_meanEvidence_64 (by decide) rfl ?_
        refine r_iinc (v := (x3 + 1)) (L' := [some (k_p 0 (i0)), some (k_i (b1)), some (k_i ((x2 + k_I σ 5 (j13) (4)))), some (k_i ((x3 + 1)))]) h dX7_meanEvidence_65 rfl rfl (by decide) rfl ?_
        refine r_goto (tgt := 24) h dX7_meanEvidence_68 (by decide) ?_
        exact r_forget (L' := [some (k_p 0 (i0)), some (k_i (b1)), some (k_i ((x2 + k_I σ 5 (j13) (4)))), some (k_i ((x3 + 1)))]) (k_le_ok ⟨rfl, ⟨rfl, ⟨rfl, ⟨rfl, trivial⟩⟩⟩⟩) (ih ((x2 + k_I σ 5 (j13) (4))) ((x3 + 1)) _ hoc kk)
def f_X7_meanEvidence (σ : k_S) (i0 : Nat) : Option (UInt64 ⊕ String) :=
  ((f_X7_guiltyReports σ (i0)).bind fun v1 => (if v1 = 0 then some (.inr "java/lang/ArithmeticException") else ((f_X7_meanEvidence_l1 200 i0 (v1) σ (0) (0)).bind fun v15 => (if (FP.ddiv (FP.i2d (v15.1)) (FP.i2d (v1))) &&& 0x7fffffffffffffff ≤ 0x7ff0000000000000 then some (.inl ((FP.ddiv (FP.i2d (v15.1)) (FP.i2d (v1))))) else none))))
theorem j_X7_meanEvidence (la : Launch) (hla : la.flags = flags0) (G : k_G) (σ : k_S) (i0 : Nat) (x : (UInt64 ⊕ String)) (hoc : f_X7_meanEvidence σ i0 = some x) : k_Ct la G yX7_meanEvidence (k_ws yX7_meanEvidence cX7_meanEvidence 4 (Option.some ClassFile.FieldType.double)) { frames := 6, cells := 1, slots := 6, locals := 82 } [k_p 0 (i0)] σ (k_tc k_mD σ x) 1 6 := by
  refine k_body hla (by decide +kernel) (k_wl rfl) (Nat.le_of_ble_eq_true rfl) (fun X h hEn hMe => ?_)
  show k_W X σ 0 0 0 [some (k_p 0 (i0)), none, none, none] []
  unfold f_X7_meanEvidence at hoc
  refine r_aload_n h dX7_meanEvidence_0 rfl ?_
  obtain ⟨v1, q2, hoc⟩ := k_ob hoc
  refine r_callV h hMe (rest := []) (as := []) (oc := .inl (k_mI v1, σ)) (j_X7_guiltyReports la hla G _ (i0) _ q2) kl_X7_282 dX7_meanEvidence_1 rfl rfl rfl rfl rfl ⟨rfl, rfl, Nat.le_of_ble_eq_true rfl, Nat.le_of_ble_eq_true rfl, Nat.le_of_ble_eq_true rfl, Nat.le_of_ble_eq_true rfl, Nat.le_of_ble_eq_true rfl⟩ (fun E q => by cases q) (fun r s q => ?_)
  cases q
  show k_W X _ _ _ _ _ ([k_i (v1)])
  refine r_istore_n (L' := [some (k_p 0 (i0)), some (k_i (v1)), none, none]) h dX7_meanEvidence_4 (by decide) rfl ?_
  refine r_iload_n h dX7_meanEvidence_5 rfl ?_
  refine r_if_ne (tgt := 20) h dX7_meanEvidence_6 (by decide) (fun c3 => ?_) (fun c3 => ?_)
  · replace hoc := (if_neg c3).symm.trans hoc
    refine r_iconst (v := 0) h dX7_meanEvidence_20 (by decide) ?_
    refine r_istore_n (L' := [some (k_p 0 (i0)), some (k_i (v1)), some (k_i (0)), none]) h dX7_meanEvidence_21 (by decide) rfl ?_
    refine r_iconst (v := 0) h dX7_meanEvidence_22 (by decide) ?_
    refine r_istore_n (L' := [some (k_p 0 (i0)), some (k_i (v1)), some (k_i (0)), some (k_i (0))]) h dX7_meanEvidence_23 (by decide) rfl ?_
    obtain ⟨v15, q16, hoc⟩ := k_ob hoc
    refine j_X7_meanEvidence_l1 la hla G X σ σ h hMe i0 (v1) 200 (0) (0) _ q16 ?_
    refine r_iload_n h dX7_meanEvidence_71 rfl ?_
    refine r_i2d h dX7_meanEvidence_72 ?_
    refine r_iload_n h dX7_meanEvidence_73 rfl ?_
    refine r_i2d h dX7_meanEvidence_74 ?_
    obtain ⟨c17, hoc⟩ := k_gd hoc
    refine r_ddiv h dX7_meanEvidence_75 c17 ?_
    cases hoc
    exact r_dreturn h hEn dX7_meanEvidence_76 rfl rfl (by decide) (by decide)
  · replace hoc := (if_pos c3).symm.trans hoc
    cases hoc
    exact r_throwW h hEn hMe kt_X7_293_295 dX7_meanEvidence_9 dX7_meanEvidence_12 dX7_meanEvidence_13 dX7_meanEvidence_16 dX7_meanEvidence_19 rfl (by decide) (by decide) (by decide)
