/-! ===== walks 1 (written by wip/whole/gen_walk.py, emit_walk.py) ===== -/
def f_X4_cutAt (σ : k_S) (i0 : Nat) (a1 : Int32) : Option (Unit × k_S) :=
  some (((), (k_uI σ 6 (i0) (2) ((if a1 < k_I σ 6 (i0) (2) then a1 else k_I σ 6 (i0) (2))))))
theorem j_X4_cutAt (la : Launch) (hla : la.flags = flags0) (G : k_G) (σ : k_S) (i0 : Nat) (a1 : Int32) (x : (Unit × k_S)) (hoc : f_X4_cutAt σ i0 a1 = some x) : k_Ct la G yX4_cutAt (k_ws yX4_cutAt cX4_cutAt 2 (Option.none : Option ClassFile.FieldType)) { frames := 1, cells := 0, slots := 0, locals := 15 } [k_p 6 (i0), k_i (a1)] σ (.inl (k_mU x.1, x.2)) 0 0 := by
  refine k_body hla (by decide +kernel) (k_wl rfl) (Nat.le_of_ble_eq_true rfl) (fun X h hEn hMe => ?_)
  show k_W X σ 0 0 0 [some (k_p 6 (i0)), some (k_i (a1))] []
  unfold f_X4_cutAt at hoc
  refine r_aload_n h dX4_cutAt_0 rfl ?_
  refine r_aload_n h dX4_cutAt_1 rfl ?_
  refine r_getI h kf_X4_17 dX4_cutAt_2 rfl rfl (by decide) rfl ?_
  refine r_iload_n h dX4_cutAt_5 rfl ?_
  refine r_min h hMe ⟨kl_X4_20.1.1, kl_X4_20.2, kl_X4_20.1.2.1, kl_X4_20.1.2.2.1⟩ dX4_cutAt_6 ⟨Nat.le_of_ble_eq_true rfl, Nat.le_of_ble_eq_true rfl, Nat.le_of_ble_eq_true rfl, Nat.le_of_ble_eq_true rfl⟩ ?_
  refine r_putI (x := (if a1 < k_I σ 6 (i0) (2) then a1 else k_I σ 6 (i0) (2))) h kp_X4_17 dX4_cutAt_9 rfl rfl (by decide) rfl rfl (k_fit_int _) ?_
  cases hoc
  exact r_return h hEn dX4_cutAt_12 rfl rfl (by decide) (by decide)
def f_X4_daysBefore (σ : k_S) (i0 : Nat) (a1 : Int32) : Option Int32 :=
  some (((if a1 < k_I σ 6 (i0) (2) then a1 else k_I σ 6 (i0) (2)) - k_I σ 6 (i0) (1)))
theorem j_X4_daysBefore (la : Launch) (hla : la.flags = flags0) (G : k_G) (σ : k_S) (i0 : Nat) (a1 : Int32) (x : Int32) (hoc : f_X4_daysBefore σ i0 a1 = some x) : k_Ct la G yX4_daysBefore (k_ws yX4_daysBefore cX4_daysBefore 2 (Option.some ClassFile.FieldType.int)) { frames := 1, cells := 0, slots := 0, locals := 13 } [k_p 6 (i0), k_i (a1)] σ (.inl (k_mI x, σ)) 0 0 := by
  refine k_body hla (by decide +kernel) (k_wl rfl) (Nat.le_of_ble_eq_true rfl) (fun X h hEn hMe => ?_)
  show k_W X σ 0 0 0 [some (k_p 6 (i0)), some (k_i (a1))] []
  unfold f_X4_daysBefore at hoc
  refine r_aload_n h dX4_daysBefore_0 rfl ?_
  refine r_getI h kf_X4_17 dX4_daysBefore_1 rfl rfl (by decide) rfl ?_
  refine r_iload_n h dX4_daysBefore_4 rfl ?_
  refine r_min h hMe ⟨kl_X4_20.1.1, kl_X4_20.2, kl_X4_20.1.2.1, kl_X4_20.1.2.2.1⟩ dX4_daysBefore_5 ⟨Nat.le_of_ble_eq_true rfl, Nat.le_of_ble_eq_true rfl, Nat.le_of_ble_eq_true rfl, Nat.le_of_ble_eq_true rfl⟩ ?_
  refine r_aload_n h dX4_daysBefore_8 rfl ?_
  refine r_getI h kf_X4_13 dX4_daysBefore_9 rfl rfl (by decide) rfl ?_
  refine r_isub h dX4_daysBefore_12 ?_
  cases hoc
  exact r_ireturn h hEn dX4_daysBefore_13 rfl rfl rfl (by decide) (by decide)
def f_X5_wipe_l1 (t : Nat) (i0 : Nat) (σ : k_S) (x1 : Int32) : Option (Int32 × k_S) := match t with
  | 0 => none
  | t + 1 => ((k_P σ 8 (i0) (0)).bind fun j1 => (if (20 : Int32) ≤ x1 then some ((x1, σ)) else (if 0 ≤ x1 ∧ (x1).toNatClampNeg < 20 then f_X5_wipe_l1 t i0 (k_uI σ 10 (j1) ((x1).toNatClampNeg) (45)) ((x1 + 1)) else none)))
theorem j_X5_wipe_l1 (la : Launch) (hla : la.flags = flags0) (G : k_G) (X : k_X) (σ0 : k_S) (h : k_Ok X RX5 cX5_wipe 2) (hMe : k_Me X la G σ0 { frames := 0, cells := 0, slots := 0, locals := 1 } "wipe") (i0 : Nat) : ∀ (t : Nat) (σ : k_S) (x1 : Int32) (e : (Int32 × k_S)), f_X5_wipe_l1 t i0 σ x1 = some e → k_W X e.2 0 0 25 [some (k_p 8 (i0)), some (k_i (e.1))] [] → k_W X σ 0 0 2 [some (k_p 8 (i0)), some (k_i (x1))] [] := by
  intro t
  induction t with
  | zero =>
    intro σ x1 e hoc kk
    cases hoc
  | succ t ih =>
    intro σ x1 e hoc kk
    rw [f_X5_wipe_l1] at hoc
    refine r_iload_n h dX5_wipe_2 rfl ?_
    refine r_aload_n h dX5_wipe_3 rfl ?_
    obtain ⟨j1, q2, hoc⟩ := k_ob hoc
    refine r_getR h kf_X5_9 dX5_wipe_4 rfl rfl (by decide) rfl (Eq.trans rfl q2) ?_
    refine r_alen h dX5_wipe_7 rfl rfl (fun _ => rfl) ?_
    refine r_eqI (y := 20) (by decide) ?_
    refine r_icmp_ge (tgt := 25) h dX5_wipe_8 (by decide) (fun c3 => ?_) (fun c3 => ?_)
    · replace hoc := (if_pos c3).symm.trans hoc
      cases hoc
      exact kk
    · replace hoc := (if_neg c3).symm.trans hoc
      refine r_aload_n h dX5_wipe_11 rfl ?_
      refine r_getR h kf_X5_9 dX5_wipe_12 rfl rfl (by decide) rfl (Eq.trans rfl q2) ?_
      refine r_iload_n h dX5_wipe_15 rfl ?_
      refine r_bipush (v := 45) h dX5_wipe_16 (by decide) ?_
      obtain ⟨c4, hoc⟩ := k_gd hoc
      refine r_castore (y := (x1).toNatClampNeg) (t := 0) (x := 45) h dX5_wipe_18 rfl rfl rfl rfl ⟨by decide, by decide⟩ (k_xx c4.1) c4.2 (by decide) ?_
      refine r_iinc (v := (x1 + 1)) (L' := [some (k_p 8 (i0)), some (k_i ((x1 + 1)))]) h dX5_wipe_19 rfl rfl (by decide) rfl ?_
      refine r_goto (tgt := 2) h dX5_wipe_22 (by decide) ?_
      exact r_forget (L' := [some (k_p 8 (i0)), some (k_i ((x1 + 1)))]) (k_le_ok ⟨rfl, ⟨rfl, trivial⟩⟩) (ih (k_uI σ 10 (j1) ((x1).toNatClampNeg) (45)) ((x1 + 1)) _ hoc kk)
def f_X5_wipe (σ : k_S) (i0 : Nat) : Option (Unit × k_S) :=
  ((f_X5_wipe_l1 200 i0 σ (0)).bind fun v5 => some (((), (k_uI v5.2 8 (i0) (2) (0)))))
theorem j_X5_wipe (la : Launch) (hla : la.flags = flags0) (G : k_G) (σ : k_S) (i0 : Nat) (x : (Unit × k_S)) (hoc : f_X5_wipe σ i0 = some x) : k_Ct la G yX5_wipe (k_ws yX5_wipe cX5_wipe 2 (Option.none : Option ClassFile.FieldType)) { frames := 0, cells := 0, slots := 0, locals := 1 } [k_p 8 (i0)] σ (.inl (k_mU x.1, x.2)) 0 0 := by
  refine k_body hla (by decide +kernel) (k_wl rfl) (Nat.le_of_ble_eq_true rfl) (fun X h hEn hMe => ?_)
  show k_W X σ 0 0 0 [some (k_p 8 (i0)), none] []
  unfold f_X5_wipe at hoc
  refine r_iconst (v := 0) h dX5_wipe_0 (by decide) ?_
  refine r_istore_n (L' := [some (k_p 8 (i0)), some (k_i (0))]) h dX5_wipe_1 (by decide) rfl ?_
  obtain ⟨v5, q6, hoc⟩ := k_ob hoc
  refine j_X5_wipe_l1 la hla G X σ h hMe i0 200 σ (0) _ q6 ?_
  refine r_aload_n h dX5_wipe_25 rfl ?_
  refine r_iconst (v := 0) h dX5_wipe_26 (by decide) ?_
  refine r_putI (x := 0) h kp_X5_22 dX5_wipe_27 rfl rfl (by decide) rfl rfl (k_fit_int _) ?_
  cases hoc
  exact r_return h hEn dX5_wipe_30 rfl rfl (by decide) (by decide)
def f_X5_init (σ : k_S) (i0 : Nat) : Option (Unit × k_S) :=
  ((f_X5_wipe (k_uP (k_new (k_uP (k_new σ 10) 8 (i0) (0) (some (k_N σ 10))) 11) 8 (i0) (1) (some (k_N (k_uP (k_new σ 10) 8 (i0) (0) (some (k_N σ 10))) 11))) (i0)).bind fun v1 => some (((), v1.2)))
theorem j_X5_init (la : Launch) (hla : la.flags = flags0) (G : k_G) (σ : k_S) (i0 : Nat) (x : (Unit × k_S)) (hoc : f_X5_init σ i0 = some x) : k_Ct la G yX5_init (k_ws yX5_init cX5_init 1 (Option.none : Option ClassFile.FieldType)) { frames := 1, cells := 2, slots := 40, locals := 22 } [k_p 8 (i0)] σ (.inl (k_mU x.1, x.2)) 2 40 := by
  refine k_body hla (by decide +kernel) (k_wl rfl) (Nat.le_of_ble_eq_true rfl) (fun X h hEn hMe => ?_)
  show k_W X σ 0 0 0 [some (k_p 8 (i0))] []
  unfold f_X5_init at hoc
  refine r_aload_n h dX5_init_0 rfl ?_
  refine r_objInit h hMe wd_70 wd_37 wd_38 dX5_init_1 (by decide) ?_
  refine r_aload_n h dX5_init_4 rfl ?_
  refine r_bipush (v := 20) h dX5_init_5 (by decide) ?_
  refine r_newarr h hMe 10 dX5_init_7 wd_86 rfl rfl (fun _ => rfl) (fun _ => rfl) (fun _ _ q => q) (by decide) (by decide) (by decide) (by decide) ?_
  refine r_putR h kp_X5_9 (fun _ => k_Me.nm hMe) dX5_init_9 rfl rfl (by decide) rfl rfl ?_
  refine r_aload_n h dX5_init_12 rfl ?_
  refine r_bipush (v := 20) h dX5_init_13 (by decide) ?_
  refine r_newarr h hMe 11 dX5_init_15 wd_87 rfl rfl (fun _ => rfl) (fun _ => rfl) (fun _ _ q => q) (by decide) (by decide) (by decide) (by decide) ?_
  refine r_putR h kp_X5_15 (fun _ => k_Me.nm hMe) dX5_init_17 rfl rfl (by decide) rfl rfl ?_
  refine r_aload_n h dX5_init_20 rfl ?_
  obtain ⟨v1, q2, hoc⟩ := k_ob hoc
  refine r_callV h hMe (rest := []) (as := []) (oc := .inl (k_mU v1.1, v1.2)) (j_X5_wipe la hla G _ (i0) _ q2) kl_X5_19 dX5_init_21 rfl rfl rfl rfl rfl ⟨rfl, rfl, Nat.le_of_ble_eq_true rfl, Nat.le_of_ble_eq_true rfl, Nat.le_of_ble_eq_true rfl, Nat.le_of_ble_eq_true rfl, Nat.le_of_ble_eq_true rfl⟩ (fun E q => by cases q) (fun r s q => ?_)
  cases q
  show k_W X _ _ _ _ _ ([])
  cases hoc
  exact r_return h hEn dX5_init_24 rfl rfl (by decide) (by decide)
def f_X5_isWithin (σ : k_S) (i0 : Nat) (a1 : Int32) : Option Int32 :=
  (if a1 < 0 then some (0) else ((k_P σ 8 (i0) (0)).bind fun j2 => (if (20 : Int32) ≤ a1 then some (0) else ((k_P σ 8 (i0) (1)).bind fun j5 => (if (20 : Int32) ≤ a1 then some (0) else some (1))))))
theorem j_X5_isWithin (la : Launch) (hla : la.flags = flags0) (G : k_G) (σ : k_S) (i0 : Nat) (a1 : Int32) (x : Int32) (hoc : f_X5_isWithin σ i0 a1 = some x) : k_Ct la G yX5_isWithin (k_ws yX5_isWithin cX5_isWithin 2 (Option.some ClassFile.FieldType.boolean)) { frames := 0, cells := 0, slots := 0, locals := 1 } [k_p 8 (i0), k_i (a1)] σ (.inl (k_mI x, σ)) 0 0 := by
  refine k_body hla (by decide +kernel) (k_wl rfl) (Nat.le_of_ble_eq_true rfl) (fun X h hEn hMe => ?_)
  show k_W X σ 0 0 0 [some (k_p 8 (i0)), some (k_i (a1))] []
  unfold f_X5_isWithin at hoc
  refine r_iload_n h dX5_isWithin_0 rfl ?_
  refine r_if_lt (tgt := 26) h dX5_isWithin_1 (by decide) (fun c1 => ?_) (fun c1 => ?_)
  · replace hoc := (if_pos c1).symm.trans hoc
    refine r_iconst (v := 0) h dX5_isWithin_26 (by decide) ?_
    cases hoc
    exact r_ireturn h hEn dX5_isWithin_27 rfl (by decide) rfl (by decide) (by decide)
  · replace hoc := (if_neg c1).symm.trans hoc
    refine r_iload_n h dX5_isWithin_4 rfl ?_
    refine r_aload_n h dX5_isWithin_5 rfl ?_
    obtain ⟨j2, q3, hoc⟩ := k_ob hoc
    refine r_getR h kf_X5_9 dX5_isWithin_6 rfl rfl (by decide) rfl (Eq.trans rfl q3) ?_
    refine r_alen h dX5_isWithin_9 rfl rfl (fun _ => rfl) ?_
    refine r_eqI (y := 20) (by decide) ?_
    refine r_icmp_ge (tgt := 26) h dX5_isWithin_10 (by decide) (fun c4 => ?_) (fun c4 => ?_)
    · replace hoc := (if_pos c4).symm.trans hoc
      refine r_iconst (v := 0) h dX5_isWithin_26 (by decide) ?_
      cases hoc
      exact r_ireturn h hEn dX5_isWithin_27 rfl (by decide) rfl (by decide) (by decide)
    · replace hoc := (if_neg c4).symm.trans hoc
      refine r_iload_n h dX5_isWithin_13 rfl ?_
      refine r_aload_n h dX5_isWithin_14 rfl ?_
      obtain ⟨j5, q6, hoc⟩ := k_ob hoc
      refine r_getR h kf_X5_15 dX5_isWithin_15 rfl rfl (by decide) rfl (Eq.trans rfl q6) ?_
      refine r_alen h dX5_isWithin_18 rfl rfl (fun _ => rfl) ?_
      refine r_eqI (y := 20) (by decide) ?_
      refine r_icmp_ge (tgt := 26) h dX5_isWithin_19 (by decide) (fun c7 => ?_) (fun c7 => ?_)
      · replace hoc := (if_pos c7).symm.trans hoc
        refine r_iconst (v := 0) h dX5_isWithin_26 (by decide) ?_
        cases hoc
        exact r_ireturn h hEn dX5_isWithin_27 rfl (by decide) rfl (by decide) (by decide)
      · replace hoc := (if_neg c7).symm.trans hoc
        refine r_iconst (v := 1) h dX5_isWithin_22 (by decide) ?_
        refine r_goto (tgt := 27) h dX5_isWithin_23 (by decide) ?_
        cases hoc
        exact r_ireturn h hEn dX5_isWithin_27 rfl (by decide) rfl (by decide) (by decide)
def f_X5_enter (σ : k_S) (i0 : Nat) (a1 : Int32) (a2 : Int32) : Option (Unit × k_S) :=
  ((f_X5_isWithin (k_uI σ 8 (i0) (2) ((k_I σ 8 (i0) (2) + 1))) (i0) (a1)).bind fun v1 => (if v1 = 0 then some (((), (k_uI σ 8 (i0) (2) ((k_I σ 8 (i0) (2) + 1))))) else ((k_P σ 8 (i0) (0)).bind fun j4 => (if 0 ≤ a1 ∧ (a1).toNatClampNeg < 20 then (if k_isC (a2) = true then ((k_P σ 8 (i0) (1)).bind fun j8 => (if 0 ≤ a1 ∧ (a1).toNatClampNeg < 20 then some (((), (k_uI (k_uI (k_uI σ 8 (i0) (2) ((k_I σ 8 (i0) (2) + 1))) 10 (j4) ((a1).toNatClampNeg) (a2)) 11 (j8) ((a1).toNatClampNeg) ((k_I σ 8 (i0) (2) + 1))))) else none)) else none) else none))))
theorem j_X5_enter (la : Launch) (hla : la.flags = flags0) (G : k_G) (σ : k_S) (i0 : Nat) (a1 : Int32) (a2 : Int32) (x : (Unit × k_S)) (hoc : f_X5_enter σ i0 a1 a2 = some x) : k_Ct la G yX5_enter (k_ws yX5_enter cX5_enter 3 (Option.none : Option ClassFile.FieldType)) { frames := 1, cells := 0, slots := 0, locals := 22 } [k_p 8 (i0), k_i (a1), k_i (a2)] σ (.inl (k_mU x.1, x.2)) 0 0 := by
  refine k_body hla (by decide +kernel) (k_wl rfl) (Nat.le_of_ble_eq_true rfl) (fun X h hEn hMe => ?_)
  show k_W X σ 0 0 0 [some (k_p 8 (i0)), some (k_i (a1)), some (k_i (a2))] []
  unfold f_X5_enter at hoc
  refine r_aload_n h dX5_enter_0 rfl ?_
  refine r_dup h dX5_enter_1 rfl ?_
  refine r_getI h kf_X5_22 dX5_enter_2 rfl rfl (by decide) rfl ?_
  refine r_iconst (v := 1) h dX5_enter_5 (by decide) ?_
  refine r_iadd h dX5_enter_6 ?_
  refine r_putI (x := (k_I σ 8 (i0) (2) + 1)) h kp_X5_22 dX5_enter_7 rfl rfl (by decide) rfl rfl (k_fit_int _) ?_
  refine r_aload_n h dX5_enter_10 rfl ?_
  refine r_iload_n h dX5_enter_11 rfl ?_
  obtain ⟨v1, q2, hoc⟩ := k_ob hoc
  refine r_callV h hMe (rest := []) (as := [k_i (a1)]) (oc := .inl (k_mI v1, (k_uI σ 8 (i0) (2) ((k_I σ 8 (i0) (2) + 1))))) (j_X5_isWithin la hla G _ (i0) (a1) _ q2) kl_X5_26 dX5_enter_12 rfl rfl rfl rfl rfl ⟨rfl, rfl, Nat.le_of_ble_eq_true rfl, Nat.le_of_ble_eq_true rfl, Nat.le_of_ble_eq_true rfl, Nat.le_of_ble_eq_true rfl, Nat.le_of_ble_eq_true rfl⟩ (fun E q => by cases q) (fun r s q => ?_)
  cases q
  show k_W X _ _ _ _ _ ([k_i (v1)])
  refine r_if_eq (tgt := 35) h dX5_enter_15 (by decide) (fun c3 => ?_) (fun c3 => ?_)
  · replace hoc := (if_pos c3).symm.trans hoc
    cases hoc
    exact r_return h hEn dX5_enter_35 rfl rfl (by decide) (by decide)
  · replace hoc := (if_neg c3).symm.trans hoc
    refine r_aload_n h dX5_enter_18 rfl ?_
    obtain ⟨j4, q5, hoc⟩ := k_ob hoc
    refine r_getR h kf_X5_9 dX5_enter_19 rfl rfl (by decide) rfl (Eq.trans rfl q5) ?_
    refine r_iload_n h dX5_enter_22 rfl ?_
    refine r_iload_n h dX5_enter_23 rfl ?_
    obtain ⟨c6, hoc⟩ := k_gd hoc
    obtain ⟨c7, hoc⟩ := k_gd hoc
    refine r_castore (y := (a1).toNatClampNeg) (t := 0) (x := a2) h dX5_enter_24 rfl rfl rfl rfl (k_fC c7) (k_xx c6.1) c6.2 (by decide) ?_
    refine r_aload_n h dX5_enter_25 rfl ?_
    obtain ⟨j8, q9, hoc⟩ := k_ob hoc
    refine r_getR h kf_X5_15 dX5_enter_26 rfl rfl (by decide) rfl (Eq.trans rfl q9) ?_
    refine r_iload_n h dX5_enter_29 rfl ?_
    refine r_aload_n h dX5_enter_30 rfl ?_
    refine r_getI h kf_X5_22 dX5_enter_31 rfl rfl (by decide) rfl ?_
    refine r_eqI (Eq.trans (k_I_l (by decide)) k_I_s) ?_
    obtain ⟨c10, hoc⟩ := k_gd hoc
    refine r_iastore (y := (a1).toNatClampNeg) (t := 0) (x := (k_I σ 8 (i0) (2) + 1)) h dX5_enter_34 rfl rfl rfl rfl (k_fit_int _) (k_xx c10.1) c10.2 (by decide) ?_
    cases hoc
    exact r_return h hEn dX5_enter_35 rfl rfl (by decide) (by decide)
def f_X5_lift (σ : k_S) (i0 : Nat) (a1 : Int32) : Option (Unit × k_S) :=
  ((f_X5_isWithin σ (i0) (a1)).bind fun v1 => (if v1 = 0 then some (((), σ)) else ((k_P σ 8 (i0) (0)).bind fun j4 => (if 0 ≤ a1 ∧ (a1).toNatClampNeg < 20 then some (((), (k_uI σ 10 (j4) ((a1).toNatClampNeg) (45)))) else none))))
theorem j_X5_lift (la : Launch) (hla : la.flags = flags0) (G : k_G) (σ : k_S) (i0 : Nat) (a1 : Int32) (x : (Unit × k_S)) (hoc : f_X5_lift σ i0 a1 = some x) : k_Ct la G yX5_lift (k_ws yX5_lift cX5_lift 2 (Option.none : Option ClassFile.FieldType)) { frames := 1, cells := 0, slots := 0, locals := 22 } [k_p 8 (i0), k_i (a1)] σ (.inl (k_mU x.1, x.2)) 0 0 := by
  refine k_body hla (by decide +kernel) (k_wl rfl) (Nat.le_of_ble_eq_true rfl) (fun X h hEn hMe => ?_)
  show k_W X σ 0 0 0 [some (k_p 8 (i0)), some (k_i (a1))] []
  unfold f_X5_lift at hoc
  refine r_aload_n h dX5_lift_0 rfl ?_
  refine r_iload_n h dX5_lift_1 rfl ?_
  obtain ⟨v1, q2, hoc⟩ := k_ob hoc
  refine r_callV h hMe (rest := []) (as := [k_i (a1)]) (oc := .inl (k_mI v1, σ)) (j_X5_isWithin la hla G _ (i0) (a1) _ q2) kl_X5_26 dX5_lift_2 rfl rfl rfl rfl rfl ⟨rfl, rfl, Nat.le_of_ble_eq_true rfl, Nat.le_of_ble_eq_true rfl, Nat.le_of_ble_eq_true rfl, Nat.le_of_ble_eq_true rfl, Nat.le_of_ble_eq_true rfl⟩ (fun E q => by cases q) (fun r s q => ?_)
  cases q
  show k_W X _ _ _ _ _ ([k_i (v1)])
  refine r_if_eq (tgt := 16) h dX5_lift_5 (by decide) (fun c3 => ?_) (fun c3 => ?_)
  · replace hoc := (if_pos c3).symm.trans hoc
    cases hoc
    exact r_return h hEn dX5_lift_16 rfl rfl (by decide) (by decide)
  · replace hoc := (if_neg c3).symm.trans hoc
    refine r_aload_n h dX5_lift_8 rfl ?_
    obtain ⟨j4, q5, hoc⟩ := k_ob hoc
    refine r_getR h kf_X5_9 dX5_lift_9 rfl rfl (by decide) rfl (Eq.trans rfl q5) ?_
    refine r_iload_n h dX5_lift_12 rfl ?_
    refine r_bipush (v := 45) h dX5_lift_13 (by decide) ?_
    obtain ⟨c6, hoc⟩ := k_gd hoc
    refine r_castore (y := (a1).toNatClampNeg) (t := 0) (x := 45) h dX5_lift_15 rfl rfl rfl rfl ⟨by decide, by decide⟩ (k_xx c6.1) c6.2 (by decide) ?_
    cases hoc
    exact r_return h hEn dX5_lift_16 rfl rfl (by decide) (by decide)
def f_X5_outcomeOf (σ : k_S) (i0 : Nat) (a1 : Int32) : Option Int32 :=
  ((f_X5_isWithin σ (i0) (a1)).bind fun v1 => (if v1 = 0 then some (45) else ((k_P σ 8 (i0) (0)).bind fun j4 => (if 0 ≤ a1 ∧ (a1).toNatClampNeg < 20 then (if k_isC (k_I σ 10 (j4) ((a1).toNatClampNeg)) = true then some (k_I σ 10 (j4) ((a1).toNatClampNeg)) else none) else none))))
theorem j_X5_outcomeOf (la : Launch) (hla : la.flags = flags0) (G : k_G) (σ : k_S) (i0 : Nat) (a1 : Int32) (x : Int32) (hoc : f_X5_outcomeOf σ i0 a1 = some x) : k_Ct la G yX5_outcomeOf (k_ws yX5_outcomeOf cX5_outcomeOf 2 (Option.some ClassFile.FieldType.char)) { frames := 1, cells := 0, slots := 0, locals := 22 } [k_p 8 (i0), k_i (a1)] σ (.inl (k_mI x, σ)) 0 0 := by
  refine k_body hla (by decide +kernel) (k_wl rfl) (Nat.le_of_ble_eq_true rfl) (fun X h hEn hMe => ?_)
  show k_W X σ 0 0 0 [some (k_p 8 (i0)), some (k_i (a1))] []
  unfold f_X5_outcomeOf at hoc
  refine r_aload_n h dX5_outcomeOf_0 rfl ?_
  refine r_iload_n h dX5_outcomeOf_1 rfl ?_
  obtain ⟨v1, q2, hoc⟩ := k_ob hoc
  refine r_callV h hMe (rest := []) (as := [k_i (a1)]) (oc := .inl (k_mI v1, σ)) (j_X5_isWithin la hla G _ (i0) (a1) _ q2) kl_X5_26 dX5_outcomeOf_2 rfl rfl rfl rfl rfl ⟨rfl, rfl, Nat.le_of_ble_eq_true rfl, Nat.le_of_ble_eq_true rfl, Nat.le_of_ble_eq_true rfl, Nat.le_of_ble_eq_true rfl, Nat.le_of_ble_eq_true rfl⟩ (fun E q => by cases q) (fun r s q => ?_)
  cases q
  show k_W X _ _ _ _ _ ([k_i (v1)])
  refine r_if_eq (tgt := 17) h dX5_outcomeOf_5 (by decide) (fun c3 => ?_) (fun c3 => ?_)
  · replace hoc := (if_pos c3).symm.trans hoc
    refine r_bipush (v := 45) h dX5_outcomeOf_17 (by decide) ?_
    cases hoc
    exact r_ireturn h hEn dX5_outcomeOf_19 rfl (by decide) rfl (by decide) (by decide)
  · replace hoc := (if_neg c3).symm.trans hoc
    refine r_aload_n h dX5_outcomeOf_8 rfl ?_
    obtain ⟨j4, q5, hoc⟩ := k_ob hoc
    refine r_getR h kf_X5_9 dX5_outcomeOf_9 rfl rfl (by decide) rfl (Eq.trans rfl q5) ?_
    refine r_iload_n h dX5_outcomeOf_12 rfl ?_
    obtain ⟨c6, hoc⟩ := k_gd hoc
    refine r_caload (y := (a1).toNatClampNeg) (t := 0) h dX5_outcomeOf_13 rfl rfl rfl (k_xx c6.1) c6.2 (by decide) ?_
    refine r_goto (tgt := 19) h dX5_outcomeOf_14 (by decide) ?_
    obtain ⟨c7, hoc⟩ := k_gd hoc
    cases hoc
    exact r_ireturn h hEn dX5_outcomeOf_19 rfl (k_nC c7) rfl (by decide) (by decide)
def f_X5_turnOf (σ : k_S) (i0 : Nat) (a1 : Int32) : Option Int32 :=
  ((f_X5_isWithin σ (i0) (a1)).bind fun v1 => (if v1 = 0 then some (0) else ((k_P σ 8 (i0) (1)).bind fun j4 => (if 0 ≤ a1 ∧ (a1).toNatClampNeg < 20 then some (k_I σ 11 (j4) ((a1).toNatClampNeg)) else none))))
theorem j_X5_turnOf (la : Launch) (hla : la.flags = flags0) (G : k_G) (σ : k_S) (i0 : Nat) (a1 : Int32) (x : Int32) (hoc : f_X5_turnOf σ i0 a1 = some x) : k_Ct la G yX5_turnOf (k_ws yX5_turnOf cX5_turnOf 2 (Option.some ClassFile.FieldType.int)) { frames := 1, cells := 0, slots := 0, locals := 22 } [k_p 8 (i0), k_i (a1)] σ (.inl (k_mI x, σ)) 0 0 := by
  refine k_body hla (by decide +kernel) (k_wl rfl) (Nat.le_of_ble_eq_true rfl) (fun X h hEn hMe => ?_)
  show k_W X σ 0 0 0 [some (k_p 8 (i0)), some (k_i (a1))] []
  unfold f_X5_turnOf at hoc
  refine r_aload_n h dX5_turnOf_0 rfl ?_
  refine r_iload_n h dX5_turnOf_1 rfl ?_
  obtain ⟨v1, q2, hoc⟩ := k_ob hoc
  refine r_callV h hMe (rest := []) (as := [k_i (a1)]) (oc := .inl (k_mI v1, σ)) (j_X5_isWithin la hla G _ (i0) (a1) _ q2) kl_X5_26 dX5_turnOf_2 rfl rfl rfl rfl rfl ⟨rfl, rfl, Nat.le_of_ble_eq_true rfl, Nat.le_of_ble_eq_true rfl, Nat.le_of_ble_eq_true rfl, Nat.le_of_ble_eq_true rfl, Nat.le_of_ble_eq_true rfl⟩ (fun E q => by cases q) (fun r s q => ?_)
  cases q
  show k_W X _ _ _ _ _ ([k_i (v1)])
  refine r_if_eq (tgt := 17) h dX5_turnOf_5 (by decide) (fun c3 => ?_) (fun c3 => ?_)
  · replace hoc := (if_pos c3).symm.trans hoc
    refine r_iconst (v := 0) h dX5_turnOf_17 (by decide) ?_
    cases hoc
    exact r_ireturn h hEn dX5_turnOf_18 rfl rfl rfl (by decide) (by decide)
  · replace hoc := (if_neg c3).symm.trans hoc
    refine r_aload_n h dX5_turnOf_8 rfl ?_
    obtain ⟨j4, q5, hoc⟩ := k_ob hoc
    refine r_getR h kf_X5_15 dX5_turnOf_9 rfl rfl (by decide) rfl (Eq.trans rfl q5) ?_
    refine r_iload_n h dX5_turnOf_12 rfl ?_
    obtain ⟨c6, hoc⟩ := k_gd hoc
    refine r_iaload (y := (a1).toNatClampNeg) (t := 0) h dX5_turnOf_13 rfl rfl rfl (k_xx c6.1) c6.2 (by decide) ?_
    refine r_goto (tgt := 18) h dX5_turnOf_14 (by decide) ?_
    cases hoc
    exact r_ireturn h hEn dX5_turnOf_18 rfl rfl rfl (by decide) (by decide)
def f_X5_isGuiltyOrInnocent (σ : k_S) (i0 : Nat) (a1 : Int32) : Option Int32 :=
  ((f_X5_outcomeOf σ (i0) (a1)).bind fun v1 => (if v1 = (103 : Int32) then some (1) else (if v1 = (105 : Int32) then some (1) else some (0))))
theorem j_X5_isGuiltyOrInnocent (la : Launch) (hla : la.flags = flags0) (G : k_G) (σ : k_S) (i0 : Nat) (a1 : Int32) (x : Int32) (hoc : f_X5_isGuiltyOrInnocent σ i0 a1 = some x) : k_Ct la G yX5_isGuiltyOrInnocent (k_ws yX5_isGuiltyOrInnocent cX5_isGuiltyOrInnocent 3 (Option.some ClassFile.FieldType.boolean)) { frames := 2, cells := 0, slots := 0, locals := 43 } [k_p 8 (i0), k_i (a1)] σ (.inl (k_mI x, σ)) 0 0 := by
  refine k_body hla (by decide +kernel) (k_wl rfl) (Nat.le_of_ble_eq_true rfl) (fun X h hEn hMe => ?_)
  show k_W X σ 0 0 0 [some (k_p 8 (i0)), some (k_i (a1)), none] []
  unfold f_X5_isGuiltyOrInnocent at hoc
  refine r_aload_n h dX5_isGuiltyOrInnocent_0 rfl ?_
  refine r_iload_n h dX5_isGuiltyOrInnocent_1 rfl ?_
  obtain ⟨v1, q2, hoc⟩ := k_ob hoc
  refine r_callV h hMe (rest := []) (as := [k_i (a1)]) (oc := .inl (k_mI v1, σ)) (j_X5_outcomeOf la hla G _ (i0) (a1) _ q2) kl_X5_30 dX5_isGuiltyOrInnocent_2 rfl rfl rfl rfl rfl ⟨rfl, rfl, Nat.le_of_ble_eq_true rfl, Nat.le_of_ble_eq_true rfl, Nat.le_of_ble_eq_true rfl, Nat.le_of_ble_eq_true rfl, Nat.le_of_ble_eq_true rfl⟩ (fun E q => by cases q) (fun r s q => ?_)
  cases q
  show k_W X _ _ _ _ _ ([k_i (v1)])
  refine r_istore_n (L' := [some (k_p 8 (i0)), some (k_i (a1)), some (k_i (v1))]) h dX5_isGuiltyOrInnocent_5 (by decide) rfl ?_
  refine r_iload_n h dX5_isGuiltyOrInnocent_6 rfl ?_
  refine r_bipush (v := 103) h dX5_isGuiltyOrInnocent_7 (by decide) ?_
  refine r_icmp_eq (tgt := 18) h dX5_isGuiltyOrInnocent_9 (by decide) (fun c3 => ?_) (fun c3 => ?_)
  · replace hoc := (if_pos c3).symm.trans hoc
    refine r_iconst (v := 1) h dX5_isGuiltyOrInnocent_18 (by decide) ?_
    refine r_goto (tgt := 23) h dX5_isGuiltyOrInnocent_19 (by decide) ?_
    cases hoc
    exact r_ireturn h hEn dX5_isGuiltyOrInnocent_23 rfl (by decide) rfl (by decide) (by decide)
  · replace hoc := (if_neg c3).symm.trans hoc
    refine r_iload_n h dX5_isGuiltyOrInnocent_12 rfl ?_
    refine r_bipush (v := 105) h dX5_isGuiltyOrInnocent_13 (by decide) ?_
    refine r_icmp_ne (tgt := 22) h dX5_isGuiltyOrInnocent_15 (by decide) (fun c4 => ?_) (fun c4 => ?_)
    · replace hoc := (if_neg c4).symm.trans hoc
      refine r_iconst (v := 0) h dX5_isGuiltyOrInnocent_22 (by decide) ?_
      cases hoc
      exact r_ireturn h hEn dX5_isGuiltyOrInnocent_23 rfl (by decide) rfl (by decide) (by decide)
    · replace hoc := (if_pos c4).symm.trans hoc
      refine r_iconst (v := 1) h dX5_isGuiltyOrInnocent_18 (by decide) ?_
      refine r_goto (tgt := 23) h dX5_isGuiltyOrInnocent_19 (by decide) ?_
      cases hoc
      exact r_ireturn h hEn dX5_isGuiltyOrInnocent_23 rfl (by decide) rfl (by decide) (by decide)
def f_X6_init (σ : k_S) (i0 : Nat) (a1 : Int32) : Option (Unit × k_S) :=
  some (((), (k_uI σ 3 (i0) (0) (a1))))
theorem j_X6_init (la : Launch) (hla : la.flags = flags0) (G : k_G) (σ : k_S) (i0 : Nat) (a1 : Int32) (x : (Unit × k_S)) (hoc : f_X6_init σ i0 a1 = some x) : k_Ct la G yX6_init (k_ws yX6_init cX6_init 2 (Option.none : Option ClassFile.FieldType)) { frames := 1, cells := 0, slots := 0, locals := 12 } [k_p 3 (i0), k_i (a1)] σ (.inl (k_mU x.1, x.2)) 0 0 := by
  refine k_body hla (by decide +kernel) (k_wl rfl) (Nat.le_of_ble_eq_true rfl) (fun X h hEn hMe => ?_)
  show k_W X σ 0 0 0 [some (k_p 3 (i0)), some (k_i (a1))] []
  unfold f_X6_init at hoc
  refine r_aload_n h dX6_init_0 rfl ?_
  refine r_objInit h hMe wd_537 wd_37 wd_38 dX6_init_1 (by decide) ?_
  refine r_aload_n h dX6_init_4 rfl ?_
  refine r_iload_n h dX6_init_5 rfl ?_
  refine r_putI (x := a1) h kp_X6_7 dX6_init_6 rfl rfl (by decide) rfl rfl (k_fit_int _) ?_
  cases hoc
  exact r_return h hEn dX6_init_9 rfl rfl (by decide) (by decide)
def f_X7_init (σ : k_S) (i0 : Nat) : Option (Unit × k_S) :=
  (if k_N σ 12 = 0 then (if k_N (k_uP (k_new σ 12) 0 (i0) (0) (some (0))) 13 = 0 then (if k_N (k_uP (k_new (k_uP (k_new σ 12) 0 (i0) (0) (some (0))) 13) 0 (i0) (1) (some (0))) 14 = 0 then (if k_N (k_uP (k_new (k_uP (k_new (k_uP (k_new σ 12) 0 (i0) (0) (some (0))) 13) 0 (i0) (1) (some (0))) 14) 0 (i0) (2) (some (0))) 15 = 0 then (if k_N (k_uP (k_new (k_uP (k_new (k_uP (k_new (k_uP (k_new σ 12) 0 (i0) (0) (some (0))) 13) 0 (i0) (1) (some (0))) 14) 0 (i0) (2) (some (0))) 15) 0 (i0) (3) (some (0))) 16 = 0 then (if k_N (k_uP (k_new (k_uP (k_new (k_uP (k_new (k_uP (k_new (k_uP (k_new σ 12) 0 (i0) (0) (some (0))) 13) 0 (i0) (1) (some (0))) 14) 0 (i0) (2) (some (0))) 15) 0 (i0) (3) (some (0))) 16) 0 (i0) (4) (some (0))) 17 = 0 then ((f_X5_init (k_new (k_uP (k_new (k_uP (k_new (k_uP (k_new (k_uP (k_new (k_uP (k_new (k_uP (k_new σ 12) 0 (i0) (0) (some (0))) 13) 0 (i0) (1) (some (0))) 14) 0 (i0) (2) (some (0))) 15) 0 (i0) (3) (some (0))) 16) 0 (i0) (4) (some (0))) 17) 0 (i0) (5) (some (0))) 8) (k_N (k_uP (k_new (k_uP (k_new (k_uP (k_new (k_uP (k_new (k_uP (k_new (k_uP (k_new σ 12) 0 (i0) (0) (some (0))) 13) 0 (i0) (1) (some (0))) 14) 0 (i0) (2) (some (0))) 15) 0 (i0) (3) (some (0))) 16) 0 (i0) (4) (some (0))) 17) 0 (i0) (5) (some (0))) 8)).bind fun v7 => ((f_X5_init (k_new (k_uP v7.2 0 (i0) (6) (some (k_N (k_uP (k_new (k_uP (k_new (k_uP (k_new (k_uP (k_new (k_uP (k_new (k_uP (k_new σ 12) 0 (i0) (0) (some (0))) 13) 0 (i0) (1) (some (0))) 14) 0 (i0) (2) (some (0))) 15) 0 (i0) (3) (some (0))) 16) 0 (i0) (4) (some (0))) 17) 0 (i0) (5) (some (0))) 8))) 8) (k_N (k_uP v7.2 0 (i0) (6) (some (k_N (k_uP (k_new (k_uP (k_new (k_uP (k_new (k_uP (k_new (k_uP (k_new (k_uP (k_new σ 12) 0 (i0) (0) (some (0))) 13) 0 (i0) (1) (some (0))) 14) 0 (i0) (2) (some (0))) 15) 0 (i0) (3) (some (0))) 16) 0 (i0) (4) (some (0))) 17) 0 (i0) (5) (some (0))) 8))) 8)).bind fun v9 => some (((), (k_uI (k_uI (k_uP v9.2 0 (i0) (7) (some (k_N (k_uP v7.2 0 (i0) (6) (some (k_N (k_uP (k_new (k_uP (k_new (k_uP (k_new (k_uP (k_new (k_uP (k_new (k_uP (k_new σ 12) 0 (i0) (0) (some (0))) 13) 0 (i0) (1) (some (0))) 14) 0 (i0) (2) (some (0))) 15) 0 (i0) (3) (some (0))) 16) 0 (i0) (4) (some (0))) 17) 0 (i0) (5) (some (0))) 8))) 8))) 0 (i0) (8) (0)) 0 (i0) (9) (5)))))) else none) else none) else none) else none) else none) else none)
theorem j_X7_init (la : Launch) (hla : la.flags = flags0) (G : k_G) (σ : k_S) (i0 : Nat) (x : (Unit × k_S)) (hoc : f_X7_init σ i0 = some x) : k_Ct la G yX7_init (k_ws yX7_init cX7_init 1 (Option.none : Option ClassFile.FieldType)) { frames := 4, cells := 12, slots := 104, locals := 90 } [k_p 0 (i0)] σ (.inl (k_mU x.1, x.2)) 12 104 := by
  refine k_body hla (by decide +kernel) (k_wl rfl) (Nat.le_of_ble_eq_true rfl) (fun X h hEn hMe => ?_)
  show k_W X σ 0 0 0 [some (k_p 0 (i0))] []
  unfold f_X7_init at hoc
  refine r_aload_n h dX7_init_0 rfl ?_
  refine r_objInit h hMe wd_36 wd_37 wd_38 dX7_init_1 (by decide) ?_
  refine r_aload_n h dX7_init_4 rfl ?_
  obtain ⟨c1, hoc⟩ := k_gd hoc
  refine r_newList h hMe 12 hla rfl c1 wd_39 kl_X7_9 dX7_init_5 dX7_init_8 dX7_init_9 ⟨Nat.le_of_ble_eq_true rfl, Nat.le_of_ble_eq_true rfl, Nat.le_of_ble_eq_true rfl, Nat.le_of_ble_eq_true rfl, Nat.le_of_ble_eq_true rfl⟩ ?_
  refine r_putR h kp_X7_10 (fun _ => k_Me.nm hMe) dX7_init_12 rfl rfl (by decide) rfl rfl ?_
  refine r_aload_n h dX7_init_15 rfl ?_
  obtain ⟨c2, hoc⟩ := k_gd hoc
  refine r_newList h hMe 13 hla rfl c2 wd_39 kl_X7_9 dX7_init_16 dX7_init_19 dX7_init_20 ⟨Nat.le_of_ble_eq_true rfl, Nat.le_of_ble_eq_true rfl, Nat.le_of_ble_eq_true rfl, Nat.le_of_ble_eq_true rfl, Nat.le_of_ble_eq_true rfl⟩ ?_
  refine r_putR h kp_X7_16 (fun _ => k_Me.nm hMe) dX7_init_23 rfl rfl (by decide) rfl rfl ?_
  refine r_aload_n h dX7_init_26 rfl ?_
  obtain ⟨c3, hoc⟩ := k_gd hoc
  refine r_newList h hMe 14 hla rfl c3 wd_39 kl_X7_9 dX7_init_27 dX7_init_30 dX7_init_31 ⟨Nat.le_of_ble_eq_true rfl, Nat.le_of_ble_eq_true rfl, Nat.le_of_ble_eq_true rfl, Nat.le_of_ble_eq_true rfl, Nat.le_of_ble_eq_true rfl⟩ ?_
  refine r_putR h kp_X7_19 (fun _ => k_Me.nm hMe) dX7_init_34 rfl rfl (by decide) rfl rfl ?_
  refine r_aload_n h dX7_init_37 rfl ?_
  obtain ⟨c4, hoc⟩ := k_gd hoc
  refine r_newList h hMe 15 hla rfl c4 wd_39 kl_X7_9 dX7_init_38 dX7_init_41 dX7_init_42 ⟨Nat.le_of_ble_eq_true rfl, Nat.le_of_ble_eq_true rfl, Nat.le_of_ble_eq_true rfl, Nat.le_of_ble_eq_true rfl, Nat.le_of_ble_eq_true rfl⟩ ?_
  refine r_putR h kp_X7_22 (fun _ => k_Me.nm hMe) dX7_init_45 rfl rfl (by decide) rfl rfl ?_
  refine r_aload_n h dX7_init_48 rfl ?_
  obtain ⟨c5, hoc⟩ := k_gd hoc
  refine r_newList h hMe 16 hla rfl c5 wd_39 kl_X7_9 dX7_init_49 dX7_init_52 dX7_init_53 ⟨Nat.le_of_ble_eq_true rfl, Nat.le_of_ble_eq_true rfl, Nat.le_of_ble_eq_true rfl, Nat.le_of_ble_eq_true rfl, Nat.le_of_ble_eq_true rfl⟩ ?_
  refine r_putR h kp_X7_25 (fun _ => k_Me.nm hMe) dX7_init_56 rfl rfl (by decide) rfl rfl ?_
  refine r_aload_n h dX7_init_59 rfl ?_
  obtain ⟨c6, hoc⟩ := k_gd hoc
  refine r_newList h hMe 17 hla rfl c6 wd_39 kl_X7_9 dX7_init_60 dX7_init_63 dX7_init_64 ⟨Nat.le_of_ble_eq_true rfl, Nat.le_of_ble_eq_true rfl, Nat.le_of_ble_eq_true rfl, Nat.le_of_ble_eq_true rfl, Nat.le_of_ble_eq_true rfl⟩ ?_
  refine r_putR h kp_X7_28 (fun _ => k_Me.nm hMe) dX7_init_67 rfl rfl (by decide) rfl rfl ?_
  refine r_aload_n h dX7_init_70 rfl ?_
  refine r_new h hMe 8 kn_X7_31 dX7_init_71 (by decide) ?_
  refine r_dup h dX7_init_74 rfl ?_
  obtain ⟨v7, q8, hoc⟩ := k_ob hoc
  refine r_callI h hMe (rest := [k_p 8 (k_N (k_uP (k_new (k_uP (k_new (k_uP (k_new (k_uP (k_new (k_uP (k_new (k_uP (k_new σ 12) 0 (i0) (0) (some (0))) 13) 0 (i0) (1) (some (0))) 14) 0 (i0) (2) (some (0))) 15) 0 (i0) (3) (some (0))) 16) 0 (i0) (4) (some (0))) 17) 0 (i0) (5) (some (0))) 8), k_p 0 (i0)]) (as := []) (oc := .inl (k_mU v7.1, v7.2)) (j_X5_init la hla G _ (k_N (k_uP (k_new (k_uP (k_new (k_uP (k_new (k_uP (k_new (k_uP (k_new (k_uP (k_new σ 12) 0 (i0) (0) (some (0))) 13) 0 (i0) (1) (some (0))) 14) 0 (i0) (2) (some (0))) 15) 0 (i0) (3) (some (0))) 16) 0 (i0) (4) (some (0))) 17) 0 (i0) (5) (some (0))) 8) _ q8) kl_X7_33 dX7_init_75 rfl rfl  ⟨rfl, rfl, Nat.le_of_ble_eq_true rfl, Nat.le_of_ble_eq_true rfl, Nat.le_of_ble_eq_true rfl, Nat.le_of_ble_eq_true rfl, Nat.le_of_ble_eq_true rfl⟩ (fun E q => by cases q) (fun r s q => ?_)
  cases q
  show k_W X _ _ _ _ _ ([k_p 8 (k_N (k_uP (k_new (k_uP (k_new (k_uP (k_new (k_uP (k_new (k_uP (k_new (k_uP (k_new σ 12) 0 (i0) (0) (some (0))) 13) 0 (i0) (1) (some (0))) 14) 0 (i0) (2) (some (0))) 15) 0 (i0) (3) (some (0))) 16) 0 (i0) (4) (some (0))) 17) 0 (i0) (5) (some (0))) 8), k_p 0 (i0)])
  refine r_putR h kp_X7_34 (fun _ => k_Me.nm hMe) dX7_init_78 rfl rfl (by decide) rfl rfl ?_
  refine r_aload_n h dX7_init_81 rfl ?_
  refine r_new h hMe 8 kn_X7_31 dX7_init_82 (by decide) ?_
  refine r_dup h dX7_init_85 rfl ?_
  obtain ⟨v9, q10, hoc⟩ := k_ob hoc
  refine r_callI h hMe (rest := [k_p 8 (k_N (k_uP v7.2 0 (i0) (6) (some (k_N (k_uP (k_new (k_uP (k_new (k_uP (k_new (k_uP (k_new (k_uP (k_new (k_uP (k_new σ 12) 0 (i0) (0) (some (0))) 13) 0 (i0) (1) (some (0))) 14) 0 (i0) (2) (some (0))) 15) 0 (i0) (3) (some (0))) 16) 0 (i0) (4) (some (0))) 17) 0 (i0) (5) (some (0))) 8))) 8), k_p 0 (i0)]) (as := []) (oc := .inl (k_mU v9.1, v9.2)) (j_X5_init la hla G _ (k_N (k_uP v7.2 0 (i0) (6) (some (k_N (k_uP (k_new (k_uP (k_new (k_uP (k_new (k_uP (k_new (k_uP (k_new (k_uP (k_new σ 12) 0 (i0) (0) (some (0))) 13) 0 (i0) (1) (some (0))) 14) 0 (i0) (2) (some (0))) 15) 0 (i0) (3) (some (0))) 16) 0 (i0) (4) (some (0))) 17) 0 (i0) (5) (some (0))) 8))) 8) _ q10) kl_X7_33 dX7_init_86 rfl rfl  ⟨rfl, rfl, Nat.le_of_ble_eq_true rfl, Nat.le_of_ble_eq_true rfl, Nat.le_of_ble_eq_true rfl, Nat.le_of_ble_eq_true rfl, Nat.le_of_ble_eq_true rfl⟩ (fun E q => by cases q) (fun r s q => ?_)
  cases q
  show k_W X _ _ _ _ _ ([k_p 8 (k_N (k_uP v7.2 0 (i0) (6) (some (k_N (k_uP (k_new (k_uP (k_new (k_uP (k_new (k_uP (k_new (k_uP (k_new (k_uP (k_new σ 12) 0 (i0) (0) (some (0))) 13) 0 (i0) (1) (some (0))) 14) 0 (i0) (2) (some (0))) 15) 0 (i0) (3) (some (0))) 16) 0 (i0) (4) (some (0))) 17) 0 (i0) (5) (some (0))) 8))) 8), k_p 0 (i0)])
  refine r_putR h kp_X7_38 (fun _ => k_Me.nm hMe) dX7_init_89 rfl rfl (by decide) rfl rfl ?_
  refine r_aload_n h dX7_init_92 rfl ?_
  refine r_iconst (v := 0) h dX7_init_93 (by decide) ?_
  refine r_putI (x := 0) h kp_X7_41 dX7_init_94 rfl rfl (by decide) rfl rfl (k_fit_int _) ?_
  refine r_aload_n h dX7_init_97 rfl ?_
  refine r_iconst (v := 5) h dX7_init_98 (by decide) ?_
  refine r_putI (x := 5) h kp_X7_45 dX7_init_99 rfl rfl (by decide) rfl rfl (k_fit_int _) ?_
  cases hoc
  exact r_return h hEn dX7_init_102 rfl rfl (by decide) (by decide)
def f_X7_requireWithin (σ : k_S) (a1 : Int32) (a2 : Int32) (a3 : Int32) : Option (Unit ⊕ String) :=
  (if a1 < a2 then some (.inr "java/lang/IllegalArgumentException") else (if a1 ≤ a3 then some (.inl (())) else some (.inr "java/lang/IllegalArgumentException")))
theorem j_X7_requireWithin (la : Launch) (hla : la.flags = flags0) (G : k_G) (σ : k_S) (a1 : Int32) (a2 : Int32) (a3 : Int32) (x : (Unit ⊕ String)) (hoc : f_X7_requireWithin σ a1 a2 a3 = some x) : k_Ct la G yX7_requireWithin (k_ws yX7_requireWithin cX7_requireWithin 3 (Option.none : Option ClassFile.FieldType)) { frames := 6, cells := 1, slots := 6, locals := 82 } [k_i (a1), k_i (a2), k_i (a3)] σ (k_tc k_mU σ x) 1 6 := by
  refine k_body hla (by decide +kernel) (k_wl rfl) (Nat.le_of_ble_eq_true rfl) (fun X h hEn hMe => ?_)
  show k_W X σ 0 0 0 [some (k_i (a1)), some (k_i (a2)), some (k_i (a3))] []
  unfold f_X7_requireWithin at hoc
  refine r_iload_n h dX7_requireWithin_0 rfl ?_
  refine r_iload_n h dX7_requireWithin_1 rfl ?_
  refine r_icmp_lt (tgt := 10) h dX7_requireWithin_2 (by decide) (fun c1 => ?_) (fun c1 => ?_)
  · replace hoc := (if_pos c1).symm.trans hoc
    cases hoc
    exact r_throwW h hEn hMe kt_X7_163_309 dX7_requireWithin_10 dX7_requireWithin_13 dX7_requireWithin_14 dX7_requireWithin_17 dX7_requireWithin_20 rfl (by decide) (by decide) (by decide)
  · replace hoc := (if_neg c1).symm.trans hoc
    refine r_iload_n h dX7_requireWithin_5 rfl ?_
    refine r_iload_n h dX7_requireWithin_6 rfl ?_
    refine r_icmp_le (tgt := 21) h dX7_requireWithin_7 (by decide) (fun c2 => ?_) (fun c2 => ?_)
    · replace hoc := (if_pos c2).symm.trans hoc
      cases hoc
      exact r_return h hEn dX7_requireWithin_21 rfl rfl (by decide) (by decide)
    · replace hoc := (if_neg c2).symm.trans hoc
      cases hoc
      exact r_throwW h hEn hMe kt_X7_163_309 dX7_requireWithin_10 dX7_requireWithin_13 dX7_requireWithin_14 dX7_requireWithin_17 dX7_requireWithin_20 rfl (by decide) (by decide) (by decide)
def f_X7_requireRoom (σ : k_S) (a1 : Int32) (a2 : Int32) : Option (Unit ⊕ String) :=
  (if a1 < a2 then some (.inl (())) else some (.inr "java/lang/IllegalStateException"))
theorem j_X7_requireRoom (la : Launch) (hla : la.flags = flags0) (G : k_G) (σ : k_S) (a1 : Int32) (a2 : Int32) (x : (Unit ⊕ String)) (hoc : f_X7_requireRoom σ a1 a2 = some x) : k_Ct la G yX7_requireRoom (k_ws yX7_requireRoom cX7_requireRoom 2 (Option.none : Option ClassFile.FieldType)) { frames := 6, cells := 1, slots := 6, locals := 82 } [k_i (a1), k_i (a2)] σ (k_tc k_mU σ x) 1 6 := by
  refine k_body hla (by decide +kernel) (k_wl rfl) (Nat.le_of_ble_eq_true rfl) (fun X h hEn hMe => ?_)
  show k_W X σ 0 0 0 [some (k_i (a1)), some (k_i (a2))] []
  unfold f_X7_requireRoom at hoc
  refine r_iload_n h dX7_requireRoom_0 rfl ?_
  refine r_iload_n h dX7_requireRoom_1 rfl ?_
  refine r_icmp_lt (tgt := 16) h dX7_requireRoom_2 (by decide) (fun c1 => ?_) (fun c1 => ?_)
  · replace hoc := (if_pos c1).symm.trans hoc
    cases hoc
    exact r_return h hEn dX7_requireRoom_16 rfl rfl (by decide) (by decide)
  · replace hoc := (if_neg c1).symm.trans hoc
    cases hoc
    exact r_throwW h hEn hMe kt_X7_86_311 dX7_requireRoom_5 dX7_requireRoom_8 dX7_requireRoom_9 dX7_requireRoom_12 dX7_requireRoom_15 rfl (by decide) (by decide) (by decide)
def f_X7_addRule (σ : k_S) (i0 : Nat) (a1 : Int32) (a2 : Int32) (a3 : Int32) (a4 : Int32) (a5 : Int32) : Option ((Int32 × k_S) ⊕ String) :=
  (k_bt (f_X7_requireWithin σ (a1) (0) (7)) fun v1 => (k_bt (f_X7_requireWithin σ (a3) (0) (9)) fun v3 => (k_bt (f_X7_requireWithin σ (a4) (1) (60)) fun v5 => (k_bt (f_X7_requireWithin σ (a5) ((k_I σ 0 (i0) (8) + 1)) (1000)) fun v7 => (if k_P σ 0 (i0) (0) = some 0 then (k_bt (f_X7_requireRoom σ ((nI (k_Z σ 12))) (12)) fun v11 => ((f_X3_init (k_new σ 2) (k_N σ 2) (a1) (a2) (a3) (a4) (a5)).bind fun v13 => (if k_Z v13.2 12 ≤ 200 then (if k_P v13.2 0 (i0) (0) = some 0 then some (.inl (((nI (k_Z (k_ladd v13.2 12 (k_N σ 2)) 12)) - 1), (k_ladd v13.2 12 (k_N σ 2)))) else none) else none))) else none)))))
theorem j_X7_addRule (la : Launch) (hla : la.flags = flags0) (G : k_G) (σ : k_S) (i0 : Nat) (a1 : Int32) (a2 : Int32) (a3 : Int32) (a4 : Int32) (a5 : Int32) (x : ((Int32 × k_S) ⊕ String)) (hoc : f_X7_addRule σ i0 a1 a2 a3 a4 a5 = some x) : k_Ct la G yX7_addRule (k_ws yX7_addRule cX7_addRule 6 (Option.some ClassFile.FieldType.int)) { frames := 7, cells := 7, slots := 336, locals := 231 } [k_p 0 (i0), k_i (a1), k_i (a2), k_i (a3), k_i (a4), k_i (a5)] σ (k_mc k_mI x) 7 336 := by
  refine k_body hla (by decide +kernel) (k_wl rfl) (Nat.le_of_ble_eq_true rfl) (fun X h hEn hMe => ?_)
  show k_W X σ 0 0 0 [some (k_p 0 (i0)), some (k_i (a1)), some (k_i (a2)), some (k_i (a3)), some (k_i (a4)), some (k_i (a5))] []
  unfold f_X7_addRule at hoc
  refine r_iload_n h dX7_addRule_0 rfl ?_
  refine r_iconst (v := 0) h dX7_addRule_1 (by decide) ?_
  refine r_bipush (v := 7) h dX7_addRule_2 (by decide) ?_
  rcases k_bt_ex hoc with ⟨v1, q2, hoc⟩ | ⟨e22, q2, hoc⟩
  · refine r_callS h hMe (rest := []) (as := [k_i (a1), k_i (0), k_i (7)]) (oc := .inl (k_mU v1, σ)) (j_X7_requireWithin la hla G _ (a1) (0) (7) _ q2) kl_X7_48 dX7_addRule_4 rfl rfl  ⟨rfl, rfl, Nat.le_of_ble_eq_true rfl, Nat.le_of_ble_eq_true rfl, Nat.le_of_ble_eq_true rfl, Nat.le_of_ble_eq_true rfl, Nat.le_of_ble_eq_true rfl⟩ (fun E q => by cases q) (fun r s q => ?_)
    cases q
    show k_W X _ _ _ _ _ ([])
    refine r_iload_n h dX7_addRule_7 rfl ?_
    refine r_iconst (v := 0) h dX7_addRule_8 (by decide) ?_
    refine r_bipush (v := 9) h dX7_addRule_9 (by decide) ?_
    rcases k_bt_ex hoc with ⟨v3, q4, hoc⟩ | ⟨e21, q4, hoc⟩
    · refine r_callS h hMe (rest := []) (as := [k_i (a3), k_i (0), k_i (9)]) (oc := .inl (k_mU v3, σ)) (j_X7_requireWithin la hla G _ (a3) (0) (9) _ q4) kl_X7_48 dX7_addRule_11 rfl rfl  ⟨rfl, rfl, Nat.le_of_ble_eq_true rfl, Nat.le_of_ble_eq_true rfl, Nat.le_of_ble_eq_true rfl, Nat.le_of_ble_eq_true rfl, Nat.le_of_ble_eq_true rfl⟩ (fun E q => by cases q) (fun r s q => ?_)
      cases q
      show k_W X _ _ _ _ _ ([])
      refine r_iload h dX7_addRule_14 rfl ?_
      refine r_iconst (v := 1) h dX7_addRule_16 (by decide) ?_
      refine r_bipush (v := 60) h dX7_addRule_17 (by decide) ?_
      rcases k_bt_ex hoc with ⟨v5, q6, hoc⟩ | ⟨e20, q6, hoc⟩
      · refine r_callS h hMe (rest := []) (as := [k_i (a4), k_i (1), k_i (60)]) (oc := .inl (k_mU v5, σ)) (j_X7_requireWithin la hla G _ (a4) (1) (60) _ q6) kl_X7_48 dX7_addRule_19 rfl rfl  ⟨rfl, rfl, Nat.le_of_ble_eq_true rfl, Nat.le_of_ble_eq_true rfl, Nat.le_of_ble_eq_true rfl, Nat.le_of_ble_eq_true rfl, Nat.le_of_ble_eq_true rfl⟩ (fun E q => by cases q) (fun r s q => ?_)
        cases q
        show k_W X _ _ _ _ _ ([])
        refine r_iload h dX7_addRule_22 rfl ?_
        refine r_aload_n h dX7_addRule_24 rfl ?_
        refine r_getI h kf_X7_41 dX7_addRule_25 rfl rfl (by decide) rfl ?_
        refine r_iconst (v := 1) h dX7_addRule_28 (by decide) ?_
        refine r_iadd h dX7_addRule_29 ?_
        refine r_sipush (v := 1000) h dX7_addRule_30 (by decide) ?_
        rcases k_bt_ex hoc with ⟨v7, q8, hoc⟩ | ⟨e19, q8, hoc⟩
        · refine r_callS h hMe (rest := []) (as := [k_i (a5), k_i ((k_I σ 0 (i0) (8) + 1)), k_i (1000)]) (oc := .inl (k_mU v7, σ)) (j_X7_requireWithin la hla G _ (a5) ((k_I σ 0 (i0) (8) + 1)) (1000) _ q8) kl_X7_48 dX7_addRule_33 rfl rfl  ⟨rfl, rfl, Nat.le_of_ble_eq_true rfl, Nat.le_of_ble_eq_true rfl, Nat.le_of_ble_eq_true rfl, Nat.le_of_ble_eq_true rfl, Nat.le_of_ble_eq_true rfl⟩ (fun E q => by cases q) (fun r s q => ?_)
          cases q
          show k_W X _ _ _ _ _ ([])
          refine r_aload_n h dX7_addRule_36 rfl ?_
          obtain ⟨q10, hoc⟩ := k_gd hoc
          refine r_getR h kf_X7_10 dX7_addRule_37 rfl rfl (by decide) rfl (Eq.trans rfl q10) ?_
          refine r_callL h hMe (rest := []) (as := []) (j_size la hla G _ 12 rfl) kl_X7_52 dX7_addRule_40 rfl rfl rfl rfl ⟨rfl, rfl, Nat.le_of_ble_eq_true rfl, Nat.le_of_ble_eq_true rfl, Nat.le_of_ble_eq_true rfl, Nat.le_of_ble_eq_true rfl, Nat.le_of_ble_eq_true rfl⟩ (fun E q => by cases q) (fun r s q => ?_)
          cases q
          refine r_bipush (v := 12) h dX7_addRule_43 (by decide) ?_
          rcases k_bt_ex hoc with ⟨v11, q12, hoc⟩ | ⟨e18, q12, hoc⟩
          · refine r_callS h hMe (rest := []) (as := [k_i ((nI (k_Z σ 12))), k_i (12)]) (oc := .inl (k_mU v11, σ)) (j_X7_requireRoom la hla G _ ((nI (k_Z σ 12))) (12) _ q12) kl_X7_56 dX7_addRule_45 rfl rfl  ⟨rfl, rfl, Nat.le_of_ble_eq_true rfl, Nat.le_of_ble_eq_true rfl, Nat.le_of_ble_eq_true rfl, Nat.le_of_ble_eq_true rfl, Nat.le_of_ble_eq_true rfl⟩ (fun E q => by cases q) (fun r s q => ?_)
            cases q
            show k_W X _ _ _ _ _ ([])
            refine r_aload_n h dX7_addRule_48 rfl ?_
            refine r_getR h kf_X7_10 dX7_addRule_49 rfl rfl (by decide) rfl (Eq.trans rfl q10) ?_
            refine r_new h hMe 2 kn_X7_60 dX7_addRule_52 (by decide) ?_
            refine r_dup h dX7_addRule_55 rfl ?_
            refine r_iload_n h dX7_addRule_56 rfl ?_
            refine r_iload_n h dX7_addRule_57 rfl ?_
            refine r_iload_n h dX7_addRule_58 rfl ?_
            refine r_iload h dX7_addRule_59 rfl ?_
            refine r_iload h dX7_addRule_61 rfl ?_
            obtain ⟨v13, q14, hoc⟩ := k_ob hoc
            refine r_callI h hMe (rest := [k_p 2 (k_N σ 2), k_p 12 (0)]) (as := [k_i (a1), k_i (a2), k_i (a3), k_i (a4), k_i (a5)]) (oc := .inl (k_mU v13.1, v13.2)) (j_X3_init la hla G _ (k_N σ 2) (a1) (a2) (a3) (a4) (a5) _ q14) kl_X7_62 dX7_addRule_63 rfl rfl  ⟨rfl, rfl, Nat.le_of_ble_eq_true rfl, Nat.le_of_ble_eq_true rfl, Nat.le_of_ble_eq_true rfl, Nat.le_of_ble_eq_true rfl, Nat.le_of_ble_eq_true rfl⟩ (fun E q => by cases q) (fun r s q => ?_)
            cases q
            show k_W X _ _ _ _ _ ([k_p 2 (k_N σ 2), k_p 12 (0)])
            obtain ⟨c15, hoc⟩ := k_gd hoc
            refine r_callL h hMe (rest := []) (as := [k_p 2 (k_N σ 2)]) (j_add la hla G _ 12 _ rfl (Nat.le_trans (Nat.le_of_eq rfl) c15)) kl_X7_65 dX7_addRule_66 rfl rfl rfl rfl ⟨rfl, rfl, Nat.le_of_ble_eq_true rfl, Nat.le_of_ble_eq_true rfl, Nat.le_of_ble_eq_true rfl, Nat.le_of_ble_eq_true rfl, Nat.le_of_ble_eq_true rfl⟩ (fun E q => by cases q) (fun r s q => ?_)
            cases q
            refine r_pop h dX7_addRule_69 rfl ?_
            refine r_aload_n h dX7_addRule_70 rfl ?_
            obtain ⟨q17, hoc⟩ := k_gd hoc
            refine r_getR h kf_X7_10 dX7_addRule_71 rfl rfl (by decide) rfl (Eq.trans (k_Pa (by decide)) q17) ?_
            refine r_callL h hMe (rest := []) (as := []) (j_size la hla G _ 12 rfl) kl_X7_52 dX7_addRule_74 rfl rfl rfl rfl ⟨rfl, rfl, Nat.le_of_ble_eq_true rfl, Nat.le_of_ble_eq_true rfl, Nat.le_of_ble_eq_true rfl, Nat.le_of_ble_eq_true rfl, Nat.le_of_ble_eq_true rfl⟩ (fun E q => by cases q) (fun r s q => ?_)
            cases q
            refine r_eqI (congrArg nI rfl) ?_
            refine r_iconst (v := 1) h dX7_addRule_77 (by decide) ?_
            refine r_isub h dX7_addRule_78 ?_
            cases hoc
            exact r_ireturn h hEn dX7_addRule_79 rfl rfl rfl (by decide) (by decide)
          · refine r_callS h hMe (rest := []) (as := [k_i ((nI (k_Z σ 12))), k_i (12)]) (oc := .inr e18) (j_X7_requireRoom la hla G _ ((nI (k_Z σ 12))) (12) _ q12) kl_X7_56 dX7_addRule_45 rfl rfl  ⟨rfl, rfl, Nat.le_of_ble_eq_true rfl, Nat.le_of_ble_eq_true rfl, Nat.le_of_ble_eq_true rfl, Nat.le_of_ble_eq_true rfl, Nat.le_of_ble_eq_true rfl⟩ (fun E q => ?_) (fun r s q => by cases q)
            cases q
            cases hoc
            exact k_T.out h hEn hMe rfl (by decide) (by decide)
        · refine r_callS h hMe (rest := []) (as := [k_i (a5), k_i ((k_I σ 0 (i0) (8) + 1)), k_i (1000)]) (oc := .inr e19) (j_X7_requireWithin la hla G _ (a5) ((k_I σ 0 (i0) (8) + 1)) (1000) _ q8) kl_X7_48 dX7_addRule_33 rfl rfl  ⟨rfl, rfl, Nat.le_of_ble_eq_true rfl, Nat.le_of_ble_eq_true rfl, Nat.le_of_ble_eq_true rfl, Nat.le_of_ble_eq_true rfl, Nat.le_of_ble_eq_true rfl⟩ (fun E q => ?_) (fun r s q => by cases q)
          cases q
          cases hoc
          exact k_T.out h hEn hMe rfl (by decide) (by decide)
      · refine r_callS h hMe (rest := []) (as := [k_i (a4), k_i (1), k_i (60)]) (oc := .inr e20) (j_X7_requireWithin la hla G _ (a4) (1) (60) _ q6) kl_X7_48 dX7_addRule_19 rfl rfl  ⟨rfl, rfl, Nat.le_of_ble_eq_true rfl, Nat.le_of_ble_eq_true rfl, Nat.le_of_ble_eq_true rfl, Nat.le_of_ble_eq_true rfl, Nat.le_of_ble_eq_true rfl⟩ (fun E q => ?_) (fun r s q => by cases q)
        cases q
        cases hoc
        exact k_T.out h hEn hMe rfl (by decide) (by decide)
    · refine r_callS h hMe (rest := []) (as := [k_i (a3), k_i (0), k_i (9)]) (oc := .inr e21) (j_X7_requireWithin la hla G _ (a3) (0) (9) _ q4) kl_X7_48 dX7_addRule_11 rfl rfl  ⟨rfl, rfl, Nat.le_of_ble_eq_true rfl, Nat.le_of_ble_eq_true rfl, Nat.le_of_ble_eq_true rfl, Nat.le_of_ble_eq_true rfl, Nat.le_of_ble_eq_true rfl⟩ (fun E q => ?_) (fun r s q => by cases q)
      cases q
      cases hoc
      exact k_T.out h hEn hMe rfl (by decide) (by decide)
  · refine r_callS h hMe (rest := []) (as := [k_i (a1), k_i (0), k_i (7)]) (oc := .inr e22) (j_X7_requireWithin la hla G _ (a1) (0) (7) _ q2) kl_X7_48 dX7_addRule_4 rfl rfl  ⟨rfl, rfl, Nat.le_of_ble_eq_true rfl, Nat.le_of_ble_eq_true rfl, Nat.le_of_ble_eq_true rfl, Nat.le_of_ble_eq_true rfl, Nat.le_of_ble_eq_true rfl⟩ (fun E q => ?_) (fun r s q => by cases q)
    cases q
    cases hoc
    exact k_T.out h hEn hMe rfl (by decide) (by decide)
