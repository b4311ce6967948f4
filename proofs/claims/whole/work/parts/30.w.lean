/-! ===== walks 0 (written by wip/whole/gen_walk.py, emit_walk.py) ===== -/
def f_X0_init (σ : k_S) (i0 : Nat) (a1 : Int32) (a2 : Int32) : Option (Unit × k_S) :=
  some (((), (k_uI (k_uI σ 4 (i0) (0) (a1)) 4 (i0) (1) (a2))))
theorem j_X0_init (la : Launch) (hla : la.flags = flags0) (G : k_G) (σ : k_S) (i0 : Nat) (a1 : Int32) (a2 : Int32) (x : (Unit × k_S)) (hoc : f_X0_init σ i0 a1 a2 = some x) : k_Ct la G yX0_init (k_ws yX0_init cX0_init 3 (Option.none : Option ClassFile.FieldType)) { frames := 1, cells := 0, slots := 0, locals := 12 } [k_p 4 (i0), k_i (a1), k_i (a2)] σ (.inl (k_mU x.1, x.2)) 0 0 := by
  refine k_body hla (by decide +kernel) (k_wl rfl) (Nat.le_of_ble_eq_true rfl) (fun X h hEn hMe => ?_)
  show k_W X σ 0 0 0 [some (k_p 4 (i0)), some (k_i (a1)), some (k_i (a2))] []
  unfold f_X0_init at hoc
  refine r_aload_n h dX0_init_0 rfl ?_
  refine r_objInit h hMe wd_588 wd_37 wd_38 dX0_init_1 (by decide) ?_
  refine r_aload_n h dX0_init_4 rfl ?_
  refine r_iload_n h dX0_init_5 rfl ?_
  refine r_putIF (x := a1) h kp_X0_9 (k_Me.nm hMe) dX0_init_6 rfl rfl (by decide) rfl rfl (k_fit_int _) ?_
  refine r_aload_n h dX0_init_9 rfl ?_
  refine r_iload_n h dX0_init_10 rfl ?_
  refine r_putI (x := a2) h kp_X0_15 dX0_init_11 rfl rfl (by decide) rfl rfl (k_fit_int _) ?_
  cases hoc
  exact r_return h hEn dX0_init_14 rfl rfl (by decide) (by decide)
def f_X0_learn (σ : k_S) (i0 : Nat) (a1 : Int32) : Option (Unit × k_S) :=
  (if a1 = 0 then some (((), (k_uI σ 4 (i0) (1) ((if (k_I σ 4 (i0) (1) - 1) < (50 : Int32) then (50 : Int32) else (k_I σ 4 (i0) (1) - 1)))))) else some (((), (k_uI σ 4 (i0) (1) ((if (100 : Int32) < (k_I σ 4 (i0) (1) + 5) then (100 : Int32) else (k_I σ 4 (i0) (1) + 5)))))))
theorem j_X0_learn (la : Launch) (hla : la.flags = flags0) (G : k_G) (σ : k_S) (i0 : Nat) (a1 : Int32) (x : (Unit × k_S)) (hoc : f_X0_learn σ i0 a1 = some x) : k_Ct la G yX0_learn (k_ws yX0_learn cX0_learn 2 (Option.none : Option ClassFile.FieldType)) { frames := 1, cells := 0, slots := 0, locals := 15 } [k_p 4 (i0), k_i (a1)] σ (.inl (k_mU x.1, x.2)) 0 0 := by
  refine k_body hla (by decide +kernel) (k_wl rfl) (Nat.le_of_ble_eq_true rfl) (fun X h hEn hMe => ?_)
  show k_W X σ 0 0 0 [some (k_p 4 (i0)), some (k_i (a1))] []
  unfold f_X0_learn at hoc
  refine r_aload_n h dX0_learn_0 rfl ?_
  refine r_iload_n h dX0_learn_1 rfl ?_
  refine r_if_eq (tgt := 19) h dX0_learn_2 (by decide) (fun c1 => ?_) (fun c1 => ?_)
  · replace hoc := (if_pos c1).symm.trans hoc
    refine r_aload_n h dX0_learn_19 rfl ?_
    refine r_getI h kf_X0_15 dX0_learn_20 rfl rfl (by decide) rfl ?_
    refine r_iconst (v := 1) h dX0_learn_23 (by decide) ?_
    refine r_isub h dX0_learn_24 ?_
    refine r_bipush (v := 50) h dX0_learn_25 (by decide) ?_
    refine r_max h hMe ⟨kl_X0_24.1.1, kl_X0_24.2, kl_X0_24.1.2.1, kl_X0_24.1.2.2.1⟩ dX0_learn_27 ⟨Nat.le_of_ble_eq_true rfl, Nat.le_of_ble_eq_true rfl, Nat.le_of_ble_eq_true rfl, Nat.le_of_ble_eq_true rfl⟩ ?_
    refine r_putI (x := (if (k_I σ 4 (i0) (1) - 1) < (50 : Int32) then (50 : Int32) else (k_I σ 4 (i0) (1) - 1))) h kp_X0_15 dX0_learn_30 rfl rfl (by decide) rfl rfl (k_fit_int _) ?_
    cases hoc
    exact r_return h hEn dX0_learn_33 rfl rfl (by decide) (by decide)
  · replace hoc := (if_neg c1).symm.trans hoc
    refine r_aload_n h dX0_learn_5 rfl ?_
    refine r_getI h kf_X0_15 dX0_learn_6 rfl rfl (by decide) rfl ?_
    refine r_iconst (v := 5) h dX0_learn_9 (by decide) ?_
    refine r_iadd h dX0_learn_10 ?_
    refine r_bipush (v := 100) h dX0_learn_11 (by decide) ?_
    refine r_min h hMe ⟨kl_X0_18.1.1, kl_X0_18.2, kl_X0_18.1.2.1, kl_X0_18.1.2.2.1⟩ dX0_learn_13 ⟨Nat.le_of_ble_eq_true rfl, Nat.le_of_ble_eq_true rfl, Nat.le_of_ble_eq_true rfl, Nat.le_of_ble_eq_true rfl⟩ ?_
    refine r_goto (tgt := 30) h dX0_learn_16 (by decide) ?_
    refine r_putI (x := (if (100 : Int32) < (k_I σ 4 (i0) (1) + 5) then (100 : Int32) else (k_I σ 4 (i0) (1) + 5))) h kp_X0_15 dX0_learn_30 rfl rfl (by decide) rfl rfl (k_fit_int _) ?_
    cases hoc
    exact r_return h hEn dX0_learn_33 rfl rfl (by decide) (by decide)
def f_X1_init (σ : k_S) (i0 : Nat) (a1 : Nat) (a2 : Int32) (a3 : Int32) (a4 : Int32) : Option (Unit × k_S) :=
  (if a2 = 0 ∨ a2 = 1 then some (((), (k_uI (k_uI (k_uI (k_uP σ 7 (i0) (0) (some (a1))) 7 (i0) (1) (a2)) 7 (i0) (2) (a3)) 7 (i0) (3) (a4)))) else none)
theorem j_X1_init (la : Launch) (hla : la.flags = flags0) (G : k_G) (σ : k_S) (i0 : Nat) (a1 : Nat) (a2 : Int32) (a3 : Int32) (a4 : Int32) (x : (Unit × k_S)) (hoc : f_X1_init σ i0 a1 a2 a3 a4 = some x) : k_Ct la G yX1_init (k_ws yX1_init cX1_init 5 (Option.none : Option ClassFile.FieldType)) { frames := 1, cells := 0, slots := 0, locals := 12 } [k_p 7 (i0), k_p 5 (a1), k_i (a2), k_i (a3), k_i (a4)] σ (.inl (k_mU x.1, x.2)) 0 0 := by
  refine k_body hla (by decide +kernel) (k_wl rfl) (Nat.le_of_ble_eq_true rfl) (fun X h hEn hMe => ?_)
  show k_W X σ 0 0 0 [some (k_p 7 (i0)), some (k_p 5 (a1)), some (k_i (a2)), some (k_i (a3)), some (k_i (a4))] []
  unfold f_X1_init at hoc
  refine r_aload_n h dX1_init_0 rfl ?_
  refine r_objInit h hMe wd_680 wd_37 wd_38 dX1_init_1 (by decide) ?_
  refine r_aload_n h dX1_init_4 rfl ?_
  refine r_aload_n h dX1_init_5 rfl ?_
  refine r_putR h kp_X1_7 (fun _ => k_Me.nm hMe) dX1_init_6 rfl rfl (by decide) rfl rfl ?_
  refine r_aload_n h dX1_init_9 rfl ?_
  refine r_iload_n h dX1_init_10 rfl ?_
  obtain ⟨c1, hoc⟩ := k_gd hoc
  refine r_putIF (x := a2) h kp_X1_13 (k_Me.nm hMe) dX1_init_11 rfl rfl (by decide) rfl rfl (k_f01 c1) ?_
  refine r_aload_n h dX1_init_14 rfl ?_
  refine r_iload_n h dX1_init_15 rfl ?_
  refine r_putIF (x := a3) h kp_X1_17 (k_Me.nm hMe) dX1_init_16 rfl rfl (by decide) rfl rfl (k_fit_int _) ?_
  refine r_aload_n h dX1_init_19 rfl ?_
  refine r_iload h dX1_init_20 rfl ?_
  refine r_putIF (x := a4) h kp_X1_21 (k_Me.nm hMe) dX1_init_22 rfl rfl (by decide) rfl rfl (k_fit_int _) ?_
  cases hoc
  exact r_return h hEn dX1_init_25 rfl rfl (by decide) (by decide)
def f_X2_init (σ : k_S) (i0 : Nat) (a1 : Int32) (a2 : Nat) (a3 : Nat) (a4 : Int32) (a5 : Int32) (a6 : Int32) : Option (Unit × k_S) :=
  some (((), (k_uI (k_uI (k_uP (k_new (k_uI (k_uI (k_uI (k_uP (k_uP (k_uI σ 5 (i0) (0) (a1)) 5 (i0) (1) (some (a2))) 5 (i0) (2) (some (a3))) 5 (i0) (3) (a4)) 5 (i0) (4) (a5)) 5 (i0) (5) (a6)) 9) 5 (i0) (6) (some (k_N (k_uI (k_uI (k_uI (k_uP (k_uP (k_uI σ 5 (i0) (0) (a1)) 5 (i0) (1) (some (a2))) 5 (i0) (2) (some (a3))) 5 (i0) (3) (a4)) 5 (i0) (4) (a5)) 5 (i0) (5) (a6)) 9))) 5 (i0) (7) (111)) 5 (i0) (11) (45))))
theorem j_X2_init (la : Launch) (hla : la.flags = flags0) (G : k_G) (σ : k_S) (i0 : Nat) (a1 : Int32) (a2 : Nat) (a3 : Nat) (a4 : Int32) (a5 : Int32) (a6 : Int32) (x : (Unit × k_S)) (hoc : f_X2_init σ i0 a1 a2 a3 a4 a5 a6 = some x) : k_Ct la G yX2_init (k_ws yX2_init cX2_init 7 (Option.none : Option ClassFile.FieldType)) { frames := 1, cells := 1, slots := 8, locals := 12 } [k_p 5 (i0), k_i (a1), k_p 3 (a2), k_p 3 (a3), k_i (a4), k_i (a5), k_i (a6)] σ (.inl (k_mU x.1, x.2)) 1 8 := by
  refine k_body hla (by decide +kernel) (k_wl rfl) (Nat.le_of_ble_eq_true rfl) (fun X h hEn hMe => ?_)
  show k_W X σ 0 0 0 [some (k_p 5 (i0)), some (k_i (a1)), some (k_p 3 (a2)), some (k_p 3 (a3)), some (k_i (a4)), some (k_i (a5)), some (k_i (a6))] []
  unfold f_X2_init at hoc
  refine r_aload_n h dX2_init_0 rfl ?_
  refine r_objInit h hMe wd_617 wd_37 wd_38 dX2_init_1 (by decide) ?_
  refine r_aload_n h dX2_init_4 rfl ?_
  refine r_iload_n h dX2_init_5 rfl ?_
  refine r_putIF (x := a1) h kp_X2_9 (k_Me.nm hMe) dX2_init_6 rfl rfl (by decide) rfl rfl (k_fit_int _) ?_
  refine r_aload_n h dX2_init_9 rfl ?_
  refine r_aload_n h dX2_init_10 rfl ?_
  refine r_putR h kp_X2_15 (fun _ => k_Me.nm hMe) dX2_init_11 rfl rfl (by decide) rfl rfl ?_
  refine r_aload_n h dX2_init_14 rfl ?_
  refine r_aload_n h dX2_init_15 rfl ?_
  refine r_putR h kp_X2_19 (fun _ => k_Me.nm hMe) dX2_init_16 rfl rfl (by decide) rfl rfl ?_
  refine r_aload_n h dX2_init_19 rfl ?_
  refine r_iload h dX2_init_20 rfl ?_
  refine r_putIF (x := a4) h kp_X2_22 (k_Me.nm hMe) dX2_init_22 rfl rfl (by decide) rfl rfl (k_fit_int _) ?_
  refine r_aload_n h dX2_init_25 rfl ?_
  refine r_iload h dX2_init_26 rfl ?_
  refine r_putIF (x := a5) h kp_X2_25 (k_Me.nm hMe) dX2_init_28 rfl rfl (by decide) rfl rfl (k_fit_int _) ?_
  refine r_aload_n h dX2_init_31 rfl ?_
  refine r_iload h dX2_init_32 rfl ?_
  refine r_putIF (x := a6) h kp_X2_28 (k_Me.nm hMe) dX2_init_34 rfl rfl (by decide) rfl rfl (k_fit_int _) ?_
  refine r_aload_n h dX2_init_37 rfl ?_
  refine r_bipush (v := 8) h dX2_init_38 (by decide) ?_
  refine r_newarr h hMe 9 dX2_init_40 wd_87 rfl rfl (fun _ => rfl) (fun _ => rfl) (fun _ _ q => q) (by decide) (by decide) (by decide) (by decide) ?_
  refine r_putR h kp_X2_31 (fun _ => k_Me.nm hMe) dX2_init_42 rfl rfl (by decide) rfl rfl ?_
  refine r_aload_n h dX2_init_45 rfl ?_
  refine r_bipush (v := 111) h dX2_init_46 (by decide) ?_
  refine r_putI (x := 111) h kp_X2_35 dX2_init_48 rfl rfl (by decide) rfl rfl ⟨by decide, by decide⟩ ?_
  refine r_aload_n h dX2_init_51 rfl ?_
  refine r_bipush (v := 45) h dX2_init_52 (by decide) ?_
  refine r_putI (x := 45) h kp_X2_39 dX2_init_54 rfl rfl (by decide) rfl rfl ⟨by decide, by decide⟩ ?_
  cases hoc
  exact r_return h hEn dX2_init_57 rfl rfl (by decide) (by decide)
def f_X2_tells (σ : k_S) (i0 : Nat) (a1 : Int32) : Option Int32 :=
  (if ((k_I σ 5 (i0) (3) >>> (a1 &&& 31)) &&& 1) = (1 : Int32) then some (1) else some (0))
theorem j_X2_tells (la : Launch) (hla : la.flags = flags0) (G : k_G) (σ : k_S) (i0 : Nat) (a1 : Int32) (x : Int32) (hoc : f_X2_tells σ i0 a1 = some x) : k_Ct la G yX2_tells (k_ws yX2_tells cX2_tells 2 (Option.some ClassFile.FieldType.boolean)) { frames := 0, cells := 0, slots := 0, locals := 1 } [k_p 5 (i0), k_i (a1)] σ (.inl (k_mI x, σ)) 0 0 := by
  refine k_body hla (by decide +kernel) (k_wl rfl) (Nat.le_of_ble_eq_true rfl) (fun X h hEn hMe => ?_)
  show k_W X σ 0 0 0 [some (k_p 5 (i0)), some (k_i (a1))] []
  unfold f_X2_tells at hoc
  refine r_aload_n h dX2_tells_0 rfl ?_
  refine r_getI h kf_X2_22 dX2_tells_1 rfl rfl (by decide) rfl ?_
  refine r_iload_n h dX2_tells_4 rfl ?_
  refine r_ishr (v := (k_I σ 5 (i0) (3) >>> (a1 &&& 31))) h dX2_tells_5 rfl ?_
  refine r_iconst (v := 1) h dX2_tells_6 (by decide) ?_
  refine r_iand h dX2_tells_7 ?_
  refine r_iconst (v := 1) h dX2_tells_8 (by decide) ?_
  refine r_icmp_ne (tgt := 16) h dX2_tells_9 (by decide) (fun c1 => ?_) (fun c1 => ?_)
  · replace hoc := (if_neg c1).symm.trans hoc
    refine r_iconst (v := 0) h dX2_tells_16 (by decide) ?_
    cases hoc
    exact r_ireturn h hEn dX2_tells_17 rfl (by decide) rfl (by decide) (by decide)
  · replace hoc := (if_pos c1).symm.trans hoc
    refine r_iconst (v := 1) h dX2_tells_12 (by decide) ?_
    refine r_goto (tgt := 17) h dX2_tells_13 (by decide) ?_
    cases hoc
    exact r_ireturn h hEn dX2_tells_17 rfl (by decide) rfl (by decide) (by decide)
def f_X2_enterVote (σ : k_S) (i0 : Nat) (a1 : Int32) (a2 : Int32) : Option (Unit × k_S) :=
  (if a1 < 0 then some (((), σ)) else ((k_P σ 5 (i0) (6)).bind fun j2 => (if (8 : Int32) ≤ a1 then some (((), σ)) else (if 0 ≤ a1 ∧ (a1).toNatClampNeg < 8 then some (((), (k_uI σ 9 (j2) ((a1).toNatClampNeg) (a2)))) else none))))
theorem j_X2_enterVote (la : Launch) (hla : la.flags = flags0) (G : k_G) (σ : k_S) (i0 : Nat) (a1 : Int32) (a2 : Int32) (x : (Unit × k_S)) (hoc : f_X2_enterVote σ i0 a1 a2 = some x) : k_Ct la G yX2_enterVote (k_ws yX2_enterVote cX2_enterVote 3 (Option.none : Option ClassFile.FieldType)) { frames := 0, cells := 0, slots := 0, locals := 1 } [k_p 5 (i0), k_i (a1), k_i (a2)] σ (.inl (k_mU x.1, x.2)) 0 0 := by
  refine k_body hla (by decide +kernel) (k_wl rfl) (Nat.le_of_ble_eq_true rfl) (fun X h hEn hMe => ?_)
  show k_W X σ 0 0 0 [some (k_p 5 (i0)), some (k_i (a1)), some (k_i (a2))] []
  unfold f_X2_enterVote at hoc
  refine r_iload_n h dX2_enterVote_0 rfl ?_
  refine r_if_lt (tgt := 20) h dX2_enterVote_1 (by decide) (fun c1 => ?_) (fun c1 => ?_)
  · replace hoc := (if_pos c1).symm.trans hoc
    cases hoc
    exact r_return h hEn dX2_enterVote_20 rfl rfl (by decide) (by decide)
  · replace hoc := (if_neg c1).symm.trans hoc
    refine r_iload_n h dX2_enterVote_4 rfl ?_
    refine r_aload_n h dX2_enterVote_5 rfl ?_
    obtain ⟨j2, q3, hoc⟩ := k_ob hoc
    refine r_getR h kf_X2_31 dX2_enterVote_6 rfl rfl (by decide) rfl (Eq.trans rfl q3) ?_
    refine r_alen h dX2_enterVote_9 rfl rfl (fun _ => rfl) ?_
    refine r_eqI (y := 8) (by decide) ?_
    refine r_icmp_ge (tgt := 20) h dX2_enterVote_10 (by decide) (fun c4 => ?_) (fun c4 => ?_)
    · replace hoc := (if_pos c4).symm.trans hoc
      cases hoc
      exact r_return h hEn dX2_enterVote_20 rfl rfl (by decide) (by decide)
    · replace hoc := (if_neg c4).symm.trans hoc
      refine r_aload_n h dX2_enterVote_13 rfl ?_
      refine r_getR h kf_X2_31 dX2_enterVote_14 rfl rfl (by decide) rfl (Eq.trans rfl q3) ?_
      refine r_iload_n h dX2_enterVote_17 rfl ?_
      refine r_iload_n h dX2_enterVote_18 rfl ?_
      obtain ⟨c5, hoc⟩ := k_gd hoc
      refine r_iastore (y := (a1).toNatClampNeg) (t := 0) (x := a2) h dX2_enterVote_19 rfl rfl rfl rfl (k_fit_int _) (k_xx c5.1) c5.2 (by decide) ?_
      cases hoc
      exact r_return h hEn dX2_enterVote_20 rfl rfl (by decide) (by decide)
def f_X2_sumFor_l1 (t : Nat) (i0 : Nat) (b2 : Nat) (σ : k_S) (x1 : Int32) (x4 : Int32) : Option (Int32 × Int32) := match t with
  | 0 => none
  | t + 1 => (if (8 : Int32) ≤ x4 then some ((x1, x4)) else (if 0 ≤ x4 ∧ (x4).toNatClampNeg < 8 then f_X2_sumFor_l1 t i0 b2 σ ((x1 + (if k_I σ 9 (b2) ((x4).toNatClampNeg) < (0 : Int32) then (0 : Int32) else k_I σ 9 (b2) ((x4).toNatClampNeg)))) ((x4 + 1)) else none))
theorem j_X2_sumFor_l1 (la : Launch) (hla : la.flags = flags0) (G : k_G) (X : k_X) (σ0 σ : k_S) (h : k_Ok X RX2 cX2_sumFor 6) (hMe : k_Me X la G σ0 { frames := 1, cells := 0, slots := 0, locals := 15 } "sumFor") (i0 : Nat) (b2 : Nat) : ∀ (t : Nat) (x1 : Int32) (x4 : Int32) (e : (Int32 × Int32)), f_X2_sumFor_l1 t i0 b2 σ x1 x4 = some e → k_W X σ 0 0 40 [some (k_p 5 (i0)), some (k_i (e.1)), some (k_p 9 (b2)), some (k_i (8)), some (k_i (e.2)), none] [] → k_W X σ 0 0 13 [some (k_p 5 (i0)), some (k_i (x1)), some (k_p 9 (b2)), some (k_i (8)), some (k_i (x4)), none] [] := by
  intro t
  induction t with
  | zero =>
    intro x1 x4 e hoc kk
    cases hoc
  | succ t ih =>
    intro x1 x4 e hoc kk
    rw [f_X2_sumFor_l1] at hoc
    refine r_iload h dX2_sumFor_13 rfl ?_
    refine r_iload_n h dX2_sumFor_15 rfl ?_
    refine r_icmp_ge (tgt := 40) h dX2_sumFor_16 (by decide) (fun c3 => ?_) (fun c3 => ?_)
    · replace hoc := (if_pos c3).symm.trans hoc
      cases hoc
      exact kk
    · replace hoc := (if_neg c3).symm.trans hoc
      refine r_aload_n h dX2_sumFor_19 rfl ?_
      refine r_iload h dX2_sumFor_20 rfl ?_
      obtain ⟨c4, hoc⟩ := k_gd hoc
      refine r_iaload (y := (x4).toNatClampNeg) (t := 0) h dX2_sumFor_22 rfl rfl rfl (k_xx c4.1) c4.2 (by decide) ?_
      refine r_istore (L' := [some (k_p 5 (i0)), some (k_i (x1)), some (k_p 9 (b2)), some (k_i (8)), some (k_i (x4)), some (k_i (k_I σ 9 (b2) ((x4).toNatClampNeg)))]) h dX2_sumFor_23 (by decide) rfl ?_
      refine r_iload_n h dX2_sumFor_25 rfl ?_
      refine r_iload h dX2_sumFor_26 rfl ?_
      refine r_iconst (v := 0) h dX2_sumFor_28 (by decide) ?_
      refine r_max h hMe ⟨kl_X2_42.1.1, kl_X2_42.2, kl_X2_42.1.2.1, kl_X2_42.1.2.2.1⟩ dX2_sumFor_29 ⟨Nat.le_of_ble_eq_true rfl, Nat.le_of_ble_eq_true rfl, Nat.le_of_ble_eq_true rfl, Nat.le_of_ble_eq_true rfl⟩ ?_
      refine r_iadd h dX2_sumFor_32 ?_
      refine r_istore_n (L' := [some (k_p 5 (i0)), some (k_i ((x1 + (if k_I σ 9 (b2) ((x4).toNatClampNeg) < (0 : Int32) then (0 : Int32) else k_I σ 9 (b2) ((x4).toNatClampNeg))))), some (k_p 9 (b2)), some (k_i (8)), some (k_i (x4)), some (k_i (k_I σ 9 (b2) ((x4).toNatClampNeg)))]) h dX2_sumFor_33 (by decide) rfl ?_
      refine r_iinc (v := (x4 + 1)) (L' := [some (k_p 5 (i0)), some (k_i ((x1 + (if k_I σ 9 (b2) ((x4).toNatClampNeg) < (0 : Int32) then (0 : Int32) else k_I σ 9 (b2) ((x4).toNatClampNeg))))), some (k_p 9 (b2)), some (k_i (8)), some (k_i ((x4 + 1))), some (k_i (k_I σ 9 (b2) ((x4).toNatClampNeg)))]) h dX2_sumFor_34 rfl rfl (by decide) rfl ?_
      refine r_goto (tgt := 13) h dX2_sumFor_37 (by decide) ?_
      exact r_forget (L' := [some (k_p 5 (i0)), some (k_i ((x1 + (if k_I σ 9 (b2) ((x4).toNatClampNeg) < (0 : Int32) then (0 : Int32) else k_I σ 9 (b2) ((x4).toNatClampNeg))))), some (k_p 9 (b2)), some (k_i (8)), some (k_i ((x4 + 1))), none]) (k_le_ok ⟨rfl, ⟨rfl, ⟨rfl, ⟨rfl, ⟨rfl, trivial⟩⟩⟩⟩⟩) (ih ((x1 + (if k_I σ 9 (b2) ((x4).toNatClampNeg) < (0 : Int32) then (0 : Int32) else k_I σ 9 (b2) ((x4).toNatClampNeg)))) ((x4 + 1)) _ hoc kk)
def f_X2_sumFor (σ : k_S) (i0 : Nat) : Option Int32 :=
  ((k_P σ 5 (i0) (6)).bind fun j1 => ((f_X2_sumFor_l1 200 i0 (j1) σ (0) (0)).bind fun v5 => some (v5.1)))
theorem j_X2_sumFor (la : Launch) (hla : la.flags = flags0) (G : k_G) (σ : k_S) (i0 : Nat) (x : Int32) (hoc : f_X2_sumFor σ i0 = some x) : k_Ct la G yX2_sumFor (k_ws yX2_sumFor cX2_sumFor 6 (Option.some ClassFile.FieldType.int)) { frames := 1, cells := 0, slots := 0, locals := 15 } [k_p 5 (i0)] σ (.inl (k_mI x, σ)) 0 0 := by
  refine k_body hla (by decide +kernel) (k_wl rfl) (Nat.le_of_ble_eq_true rfl) (fun X h hEn hMe => ?_)
  show k_W X σ 0 0 0 [some (k_p 5 (i0)), none, none, none, none, none] []
  unfold f_X2_sumFor at hoc
  refine r_iconst (v := 0) h dX2_sumFor_0 (by decide) ?_
  refine r_istore_n (L' := [some (k_p 5 (i0)), some (k_i (0)), none, none, none, none]) h dX2_sumFor_1 (by decide) rfl ?_
  refine r_aload_n h dX2_sumFor_2 rfl ?_
  obtain ⟨j1, q2, hoc⟩ := k_ob hoc
  refine r_getR h kf_X2_31 dX2_sumFor_3 rfl rfl (by decide) rfl (Eq.trans rfl q2) ?_
  refine r_astore_n (L' := [some (k_p 5 (i0)), some (k_i (0)), some (k_p 9 (j1)), none, none, none]) h dX2_sumFor_6 (by decide) rfl ?_
  refine r_aload_n h dX2_sumFor_7 rfl ?_
  refine r_alen h dX2_sumFor_8 rfl rfl (fun _ => rfl) ?_
  refine r_eqI (y := 8) (by decide) ?_
  refine r_istore_n (L' := [some (k_p 5 (i0)), some (k_i (0)), some (k_p 9 (j1)), some (k_i (8)), none, none]) h dX2_sumFor_9 (by decide) rfl ?_
  refine r_iconst (v := 0) h dX2_sumFor_10 (by decide) ?_
  refine r_istore (L' := [some (k_p 5 (i0)), some (k_i (0)), some (k_p 9 (j1)), some (k_i (8)), some (k_i (0)), none]) h dX2_sumFor_11 (by decide) rfl ?_
  obtain ⟨v5, q6, hoc⟩ := k_ob hoc
  refine j_X2_sumFor_l1 la hla G X σ σ h hMe i0 (j1) 200 (0) (0) _ q6 ?_
  refine r_iload_n h dX2_sumFor_40 rfl ?_
  cases hoc
  exact r_ireturn h hEn dX2_sumFor_41 rfl rfl rfl (by decide) (by decide)
def f_X2_sumAgainst_l1 (t : Nat) (i0 : Nat) (b2 : Nat) (σ : k_S) (x1 : Int32) (x4 : Int32) : Option (Int32 × Int32) := match t with
  | 0 => none
  | t + 1 => (if (8 : Int32) ≤ x4 then some ((x1, x4)) else (if 0 ≤ x4 ∧ (x4).toNatClampNeg < 8 then f_X2_sumAgainst_l1 t i0 b2 σ ((x1 + (if (-(k_I σ 9 (b2) ((x4).toNatClampNeg))) < (0 : Int32) then (0 : Int32) else (-(k_I σ 9 (b2) ((x4).toNatClampNeg)))))) ((x4 + 1)) else none))
theorem j_X2_sumAgainst_l1 (la : Launch) (hla : la.flags = flags0) (G : k_G) (X : k_X) (σ0 σ : k_S) (h : k_Ok X RX2 cX2_sumAgainst 6) (hMe : k_Me X la G σ0 { frames := 1, cells := 0, slots := 0, locals := 15 } "sumAgainst") (i0 : Nat) (b2 : Nat) : ∀ (t : Nat) (x1 : Int32) (x4 : Int32) (e : (Int32 × Int32)), f_X2_sumAgainst_l1 t i0 b2 σ x1 x4 = some e → k_W X σ 0 0 41 [some (k_p 5 (i0)), some (k_i (e.1)), some (k_p 9 (b2)), some (k_i (8)), some (k_i (e.2)), none] [] → k_W X σ 0 0 13 [some (k_p 5 (i0)), some (k_i (x1)), some (k_p 9 (b2)), some (k_i (8)), some (k_i (x4)), none] [] := by
  intro t
  induction t with
  | zero =>
    intro x1 x4 e hoc kk
    cases hoc
  | succ t ih =>
    intro x1 x4 e hoc kk
    rw [f_X2_sumAgainst_l1] at hoc
    refine r_iload h dX2_sumAgainst_13 rfl ?_
    refine r_iload_n h dX2_sumAgainst_15 rfl ?_
    refine r_icmp_ge (tgt := 41) h dX2_sumAgainst_16 (by decide) (fun c3 => ?_) (fun c3 => ?_)
    · replace hoc := (if_pos c3).symm.trans hoc
      cases hoc
      exact kk
    · replace hoc := (if_neg c3).symm.trans hoc
      refine r_aload_n h dX2_sumAgainst_19 rfl ?_
      refine r_iload h dX2_sumAgainst_20 rfl ?_
      obtain ⟨c4, hoc⟩ := k_gd hoc
      refine r_iaload (y := (x4).toNatClampNeg) (t := 0) h dX2_sumAgainst_22 rfl rfl rfl (k_xx c4.1) c4.2 (by decide) ?_
      refine r_istore (L' := [some (k_p 5 (i0)), some (k_i (x1)), some (k_p 9 (b2)), some (k_i (8)), some (k_i (x4)), some (k_i (k_I σ 9 (b2) ((x4).toNatClampNeg)))]) h dX2_sumAgainst_23 (by decide) rfl ?_
      refine r_iload_n h dX2_sumAgainst_25 rfl ?_
      refine r_iload h dX2_sumAgainst_26 rfl ?_
      refine r_ineg h dX2_sumAgainst_28 ?_
      refine r_iconst (v := 0) h dX2_sumAgainst_29 (by decide) ?_
      refine r_max h hMe ⟨kl_X2_42.1.1, kl_X2_42.2, kl_X2_42.1.2.1, kl_X2_42.1.2.2.1⟩ dX2_sumAgainst_30 ⟨Nat.le_of_ble_eq_true rfl, Nat.le_of_ble_eq_true rfl, Nat.le_of_ble_eq_true rfl, Nat.le_of_ble_eq_true rfl⟩ ?_
      refine r_iadd h dX2_sumAgainst_33 ?_
      refine r_istore_n (L' := [some (k_p 5 (i0)), some (k_i ((x1 + (if (-(k_I σ 9 (b2) ((x4).toNatClampNeg))) < (0 : Int32) then (0 : Int32) else (-(k_I σ 9 (b2) ((x4).toNatClampNeg))))))), some (k_p 9 (b2)), some (k_i (8)), some (k_i (x4)), some (k_i (k_I σ 9 (b2) ((x4).toNatClampNeg)))]) h dX2_sumAgainst_34 (by decide) rfl ?_
      refine r_iinc (v := (x4 + 1)) (L' := [some (k_p 5 (i0)), some (k_i ((x1 + (if (-(k_I σ 9 (b2) ((x4).toNatClampNeg))) < (0 : Int32) then (0 : Int32) else (-(k_I σ 9 (b2) ((x4).toNatClampNeg))))))), some (k_p 9 (b2)), some (k_i (8)), some (k_i ((x4 + 1))), some (k_i (k_I σ 9 (b2) ((x4).toNatClampNeg)))]) h dX2_sumAgainst_35 rfl rfl (by decide) rfl ?_
      refine r_goto (tgt := 13) h dX2_sumAgainst_38 (by decide) ?_
      exact r_forget (L' := [some (k_p 5 (i0)), some (k_i ((x1 + (if (-(k_I σ 9 (b2) ((x4).toNatClampNeg))) < (0 : Int32) then (0 : Int32) else (-(k_I σ 9 (b2) ((x4).toNatClampNeg))))))), some (k_p 9 (b2)), some (k_i (8)), some (k_i ((x4 + 1))), none]) (k_le_ok ⟨rfl, ⟨rfl, ⟨rfl, ⟨rfl, ⟨rfl, trivial⟩⟩⟩⟩⟩) (ih ((x1 + (if (-(k_I σ 9 (b2) ((x4).toNatClampNeg))) < (0 : Int32) then (0 : Int32) else (-(k_I σ 9 (b2) ((x4).toNatClampNeg)))))) ((x4 + 1)) _ hoc kk)
def f_X2_sumAgainst (σ : k_S) (i0 : Nat) : Option Int32 :=
  ((k_P σ 5 (i0) (6)).bind fun j1 => ((f_X2_sumAgainst_l1 200 i0 (j1) σ (0) (0)).bind fun v5 => some (v5.1)))
theorem j_X2_sumAgainst (la : Launch) (hla : la.flags = flags0) (G : k_G) (σ : k_S) (i0 : Nat) (x : Int32) (hoc : f_X2_sumAgainst σ i0 = some x) : k_Ct la G yX2_sumAgainst (k_ws yX2_sumAgainst cX2_sumAgainst 6 (Option.some ClassFile.FieldType.int)) { frames := 1, cells := 0, slots := 0, locals := 15 } [k_p 5 (i0)] σ (.inl (k_mI x, σ)) 0 0 := by
  refine k_body hla (by decide +kernel) (k_wl rfl) (Nat.le_of_ble_eq_true rfl) (fun X h hEn hMe => ?_)
  show k_W X σ 0 0 0 [some (k_p 5 (i0)), none, none, none, none, none] []
  unfold f_X2_sumAgainst at hoc
  refine r_iconst (v := 0) h dX2_sumAgainst_0 (by decide) ?_
  refine r_istore_n (L' := [some (k_p 5 (i0)), some (k_i (0)), none, none, none, none]) h dX2_sumAgainst_1 (by decide) rfl ?_
  refine r_aload_n h dX2_sumAgainst_2 rfl ?_
  obtain ⟨j1, q2, hoc⟩ := k_ob hoc
  refine r_getR h kf_X2_31 dX2_sumAgainst_3 rfl rfl (by decide) rfl (Eq.trans rfl q2) ?_
  refine r_astore_n (L' := [some (k_p 5 (i0)), some (k_i (0)), some (k_p 9 (j1)), none, none, none]) h dX2_sumAgainst_6 (by decide) rfl ?_
  refine r_aload_n h dX2_sumAgainst_7 rfl ?_
  refine r_alen h dX2_sumAgainst_8 rfl rfl (fun _ => rfl) ?_
  refine r_eqI (y := 8) (by decide) ?_
  refine r_istore_n (L' := [some (k_p 5 (i0)), some (k_i (0)), some (k_p 9 (j1)), some (k_i (8)), none, none]) h dX2_sumAgainst_9 (by decide) rfl ?_
  refine r_iconst (v := 0) h dX2_sumAgainst_10 (by decide) ?_
  refine r_istore (L' := [some (k_p 5 (i0)), some (k_i (0)), some (k_p 9 (j1)), some (k_i (8)), some (k_i (0)), none]) h dX2_sumAgainst_11 (by decide) rfl ?_
  obtain ⟨v5, q6, hoc⟩ := k_ob hoc
  refine j_X2_sumAgainst_l1 la hla G X σ σ h hMe i0 (j1) 200 (0) (0) _ q6 ?_
  refine r_iload_n h dX2_sumAgainst_41 rfl ?_
  cases hoc
  exact r_ireturn h hEn dX2_sumAgainst_42 rfl rfl rfl (by decide) (by decide)
def f_X2_hasNewDecision (σ : k_S) (i0 : Nat) : Option Int32 :=
  (if k_I σ 5 (i0) (10) = 0 then some (0) else (if k_I σ 5 (i0) (7) = (100 : Int32) then some (1) else some (0)))
theorem j_X2_hasNewDecision (la : Launch) (hla : la.flags = flags0) (G : k_G) (σ : k_S) (i0 : Nat) (x : Int32) (hoc : f_X2_hasNewDecision σ i0 = some x) : k_Ct la G yX2_hasNewDecision (k_ws yX2_hasNewDecision cX2_hasNewDecision 1 (Option.some ClassFile.FieldType.boolean)) { frames := 0, cells := 0, slots := 0, locals := 1 } [k_p 5 (i0)] σ (.inl (k_mI x, σ)) 0 0 := by
  refine k_body hla (by decide +kernel) (k_wl rfl) (Nat.le_of_ble_eq_true rfl) (fun X h hEn hMe => ?_)
  show k_W X σ 0 0 0 [some (k_p 5 (i0))] []
  unfold f_X2_hasNewDecision at hoc
  refine r_aload_n h dX2_hasNewDecision_0 rfl ?_
  refine r_getI h kf_X2_48 dX2_hasNewDecision_1 rfl rfl (by decide) rfl ?_
  refine r_if_eq (tgt := 20) h dX2_hasNewDecision_4 (by decide) (fun c1 => ?_) (fun c1 => ?_)
  · replace hoc := (if_pos c1).symm.trans hoc
    refine r_iconst (v := 0) h dX2_hasNewDecision_20 (by decide) ?_
    cases hoc
    exact r_ireturn h hEn dX2_hasNewDecision_21 rfl (by decide) rfl (by decide) (by decide)
  · replace hoc := (if_neg c1).symm.trans hoc
    refine r_aload_n h dX2_hasNewDecision_7 rfl ?_
    refine r_getI h kf_X2_35 dX2_hasNewDecision_8 rfl rfl (by decide) rfl ?_
    refine r_bipush (v := 100) h dX2_hasNewDecision_11 (by decide) ?_
    refine r_icmp_ne (tgt := 20) h dX2_hasNewDecision_13 (by decide) (fun c2 => ?_) (fun c2 => ?_)
    · replace hoc := (if_neg c2).symm.trans hoc
      refine r_iconst (v := 0) h dX2_hasNewDecision_20 (by decide) ?_
      cases hoc
      exact r_ireturn h hEn dX2_hasNewDecision_21 rfl (by decide) rfl (by decide) (by decide)
    · replace hoc := (if_pos c2).symm.trans hoc
      refine r_iconst (v := 1) h dX2_hasNewDecision_16 (by decide) ?_
      refine r_goto (tgt := 21) h dX2_hasNewDecision_17 (by decide) ?_
      cases hoc
      exact r_ireturn h hEn dX2_hasNewDecision_21 rfl (by decide) rfl (by decide) (by decide)
def f_X2_standsByBot (σ : k_S) (i0 : Nat) : Option Int32 :=
  (k_on (k_P σ 5 (i0) (8)) (some (0)) (fun j1 => (if k_I σ 5 (i0) (7) = (100 : Int32) then (if k_I σ 5 (i0) (10) = 0 then some (1) else some (0)) else some (0))))
theorem j_X2_standsByBot (la : Launch) (hla : la.flags = flags0) (G : k_G) (σ : k_S) (i0 : Nat) (x : Int32) (hoc : f_X2_standsByBot σ i0 = some x) : k_Ct la G yX2_standsByBot (k_ws yX2_standsByBot cX2_standsByBot 1 (Option.some ClassFile.FieldType.boolean)) { frames := 0, cells := 0, slots := 0, locals := 1 } [k_p 5 (i0)] σ (.inl (k_mI x, σ)) 0 0 := by
  refine k_body hla (by decide +kernel) (k_wl rfl) (Nat.le_of_ble_eq_true rfl) (fun X h hEn hMe => ?_)
  show k_W X σ 0 0 0 [some (k_p 5 (i0))] []
  unfold f_X2_standsByBot at hoc
  refine r_aload_n h dX2_standsByBot_0 rfl ?_
  rcases q2 : k_P σ 5 (i0) (8) with _ | j1
  · replace hoc := (k_on_n q2).symm.trans hoc
    refine r_getN h kf_X2_52 dX2_standsByBot_1 rfl rfl (by decide) rfl (Eq.trans rfl q2) ?_
    refine r_ifnullN (tgt := 27) h dX2_standsByBot_4 (by decide) ?_
    refine r_iconst (v := 0) h dX2_standsByBot_27 (by decide) ?_
    cases hoc
    exact r_ireturn h hEn dX2_standsByBot_28 rfl (by decide) rfl (by decide) (by decide)
  · replace hoc := (k_on_s q2).symm.trans hoc
    refine r_getR h kf_X2_52 dX2_standsByBot_1 rfl rfl (by decide) rfl (Eq.trans rfl q2) ?_
    refine r_ifnull h dX2_standsByBot_4 ?_
    refine r_aload_n h dX2_standsByBot_7 rfl ?_
    refine r_getI h kf_X2_35 dX2_standsByBot_8 rfl rfl (by decide) rfl ?_
    refine r_bipush (v := 100) h dX2_standsByBot_11 (by decide) ?_
    refine r_icmp_ne (tgt := 27) h dX2_standsByBot_13 (by decide) (fun c3 => ?_) (fun c3 => ?_)
    · replace hoc := (if_neg c3).symm.trans hoc
      refine r_iconst (v := 0) h dX2_standsByBot_27 (by decide) ?_
      cases hoc
      exact r_ireturn h hEn dX2_standsByBot_28 rfl (by decide) rfl (by decide) (by decide)
    · replace hoc := (if_pos c3).symm.trans hoc
      refine r_aload_n h dX2_standsByBot_16 rfl ?_
      refine r_getI h kf_X2_48 dX2_standsByBot_17 rfl rfl (by decide) rfl ?_
      refine r_if_ne (tgt := 27) h dX2_standsByBot_20 (by decide) (fun c4 => ?_) (fun c4 => ?_)
      · replace hoc := (if_neg c4).symm.trans hoc
        refine r_iconst (v := 0) h dX2_standsByBot_27 (by decide) ?_
        cases hoc
        exact r_ireturn h hEn dX2_standsByBot_28 rfl (by decide) rfl (by decide) (by decide)
      · replace hoc := (if_pos c4).symm.trans hoc
        refine r_iconst (v := 1) h dX2_standsByBot_23 (by decide) ?_
        refine r_goto (tgt := 28) h dX2_standsByBot_24 (by decide) ?_
        cases hoc
        exact r_ireturn h hEn dX2_standsByBot_28 rfl (by decide) rfl (by decide) (by decide)
def f_X3_init (σ : k_S) (i0 : Nat) (a1 : Int32) (a2 : Int32) (a3 : Int32) (a4 : Int32) (a5 : Int32) : Option (Unit × k_S) :=
  (if a2 = 0 ∨ a2 = 1 then some (((), (k_uI (k_uI (k_uI (k_uI (k_uI (k_uI σ 2 (i0) (0) (a1)) 2 (i0) (1) (a2)) 2 (i0) (2) (a3)) 2 (i0) (3) (a4)) 2 (i0) (4) (a5)) 2 (i0) (5) (1001)))) else none)
theorem j_X3_init (la : Launch) (hla : la.flags = flags0) (G : k_G) (σ : k_S) (i0 : Nat) (a1 : Int32) (a2 : Int32) (a3 : Int32) (a4 : Int32) (a5 : Int32) (x : (Unit × k_S)) (hoc : f_X3_init σ i0 a1 a2 a3 a4 a5 = some x) : k_Ct la G yX3_init (k_ws yX3_init cX3_init 6 (Option.none : Option ClassFile.FieldType)) { frames := 1, cells := 0, slots := 0, locals := 12 } [k_p 2 (i0), k_i (a1), k_i (a2), k_i (a3), k_i (a4), k_i (a5)] σ (.inl (k_mU x.1, x.2)) 0 0 := by
  refine k_body hla (by decide +kernel) (k_wl rfl) (Nat.le_of_ble_eq_true rfl) (fun X h hEn hMe => ?_)
  show k_W X σ 0 0 0 [some (k_p 2 (i0)), some (k_i (a1)), some (k_i (a2)), some (k_i (a3)), some (k_i (a4)), some (k_i (a5))] []
  unfold f_X3_init at hoc
  refine r_aload_n h dX3_init_0 rfl ?_
  refine r_objInit h hMe wd_331 wd_37 wd_38 dX3_init_1 (by decide) ?_
  refine r_aload_n h dX3_init_4 rfl ?_
  refine r_iload_n h dX3_init_5 rfl ?_
  refine r_putIF (x := a1) h kp_X3_9 (k_Me.nm hMe) dX3_init_6 rfl rfl (by decide) rfl rfl (k_fit_int _) ?_
  refine r_aload_n h dX3_init_9 rfl ?_
  refine r_iload_n h dX3_init_10 rfl ?_
  obtain ⟨c1, hoc⟩ := k_gd hoc
  refine r_putIF (x := a2) h kp_X3_15 (k_Me.nm hMe) dX3_init_11 rfl rfl (by decide) rfl rfl (k_f01 c1) ?_
  refine r_aload_n h dX3_init_14 rfl ?_
  refine r_iload_n h dX3_init_15 rfl ?_
  refine r_putIF (x := a3) h kp_X3_19 (k_Me.nm hMe) dX3_init_16 rfl rfl (by decide) rfl rfl (k_fit_int _) ?_
  refine r_aload_n h dX3_init_19 rfl ?_
  refine r_iload h dX3_init_20 rfl ?_
  refine r_putIF (x := a4) h kp_X3_22 (k_Me.nm hMe) dX3_init_22 rfl rfl (by decide) rfl rfl (k_fit_int _) ?_
  refine r_aload_n h dX3_init_25 rfl ?_
  refine r_iload h dX3_init_26 rfl ?_
  refine r_putIF (x := a5) h kp_X3_25 (k_Me.nm hMe) dX3_init_28 rfl rfl (by decide) rfl rfl (k_fit_int _) ?_
  refine r_aload_n h dX3_init_31 rfl ?_
  refine r_sipush (v := 1001) h dX3_init_32 (by decide) ?_
  refine r_putI (x := 1001) h kp_X3_28 dX3_init_35 rfl rfl (by decide) rfl rfl (k_fit_int _) ?_
  cases hoc
  exact r_return h hEn dX3_init_38 rfl rfl (by decide) (by decide)
def f_X3_holdsOn (σ : k_S) (i0 : Nat) (a1 : Int32) : Option Int32 :=
  (if a1 < k_I σ 2 (i0) (4) then some (0) else (if k_I σ 2 (i0) (5) ≤ a1 then some (0) else some (1)))
theorem j_X3_holdsOn (la : Launch) (hla : la.flags = flags0) (G : k_G) (σ : k_S) (i0 : Nat) (a1 : Int32) (x : Int32) (hoc : f_X3_holdsOn σ i0 a1 = some x) : k_Ct la G yX3_holdsOn (k_ws yX3_holdsOn cX3_holdsOn 2 (Option.some ClassFile.FieldType.boolean)) { frames := 0, cells := 0, slots := 0, locals := 1 } [k_p 2 (i0), k_i (a1)] σ (.inl (k_mI x, σ)) 0 0 := by
  refine k_body hla (by decide +kernel) (k_wl rfl) (Nat.le_of_ble_eq_true rfl) (fun X h hEn hMe => ?_)
  show k_W X σ 0 0 0 [some (k_p 2 (i0)), some (k_i (a1))] []
  unfold f_X3_holdsOn at hoc
  refine r_aload_n h dX3_holdsOn_0 rfl ?_
  refine r_getI h kf_X3_25 dX3_holdsOn_1 rfl rfl (by decide) rfl ?_
  refine r_iload_n h dX3_holdsOn_4 rfl ?_
  refine r_icmp_gt (tgt := 20) h dX3_holdsOn_5 (by decide) (fun c1 => ?_) (fun c1 => ?_)
  · replace hoc := (if_pos c1).symm.trans hoc
    refine r_iconst (v := 0) h dX3_holdsOn_20 (by decide) ?_
    cases hoc
    exact r_ireturn h hEn dX3_holdsOn_21 rfl (by decide) rfl (by decide) (by decide)
  · replace hoc := (if_neg c1).symm.trans hoc
    refine r_iload_n h dX3_holdsOn_8 rfl ?_
    refine r_aload_n h dX3_holdsOn_9 rfl ?_
    refine r_getI h kf_X3_28 dX3_holdsOn_10 rfl rfl (by decide) rfl ?_
    refine r_icmp_ge (tgt := 20) h dX3_holdsOn_13 (by decide) (fun c2 => ?_) (fun c2 => ?_)
    · replace hoc := (if_pos c2).symm.trans hoc
      refine r_iconst (v := 0) h dX3_holdsOn_20 (by decide) ?_
      cases hoc
      exact r_ireturn h hEn dX3_holdsOn_21 rfl (by decide) rfl (by decide) (by decide)
    · replace hoc := (if_neg c2).symm.trans hoc
      refine r_iconst (v := 1) h dX3_holdsOn_16 (by decide) ?_
      refine r_goto (tgt := 21) h dX3_holdsOn_17 (by decide) ?_
      cases hoc
      exact r_ireturn h hEn dX3_holdsOn_21 rfl (by decide) rfl (by decide) (by decide)
def f_X3_isRepealed (σ : k_S) (i0 : Nat) : Option Int32 :=
  (if k_I σ 2 (i0) (5) = (1001 : Int32) then some (0) else some (1))
theorem j_X3_isRepealed (la : Launch) (hla : la.flags = flags0) (G : k_G) (σ : k_S) (i0 : Nat) (x : Int32) (hoc : f_X3_isRepealed σ i0 = some x) : k_Ct la G yX3_isRepealed (k_ws yX3_isRepealed cX3_isRepealed 1 (Option.some ClassFile.FieldType.boolean)) { frames := 0, cells := 0, slots := 0, locals := 1 } [k_p 2 (i0)] σ (.inl (k_mI x, σ)) 0 0 := by
  refine k_body hla (by decide +kernel) (k_wl rfl) (Nat.le_of_ble_eq_true rfl) (fun X h hEn hMe => ?_)
  show k_W X σ 0 0 0 [some (k_p 2 (i0))] []
  unfold f_X3_isRepealed at hoc
  refine r_aload_n h dX3_isRepealed_0 rfl ?_
  refine r_getI h kf_X3_28 dX3_isRepealed_1 rfl rfl (by decide) rfl ?_
  refine r_sipush (v := 1001) h dX3_isRepealed_4 (by decide) ?_
  refine r_icmp_eq (tgt := 14) h dX3_isRepealed_7 (by decide) (fun c1 => ?_) (fun c1 => ?_)
  · replace hoc := (if_pos c1).symm.trans hoc
    refine r_iconst (v := 0) h dX3_isRepealed_14 (by decide) ?_
    cases hoc
    exact r_ireturn h hEn dX3_isRepealed_15 rfl (by decide) rfl (by decide) (by decide)
  · replace hoc := (if_neg c1).symm.trans hoc
    refine r_iconst (v := 1) h dX3_isRepealed_10 (by decide) ?_
    refine r_goto (tgt := 15) h dX3_isRepealed_11 (by decide) ?_
    cases hoc
    exact r_ireturn h hEn dX3_isRepealed_15 rfl (by decide) rfl (by decide) (by decide)
def f_X4_init (σ : k_S) (i0 : Nat) (a1 : Nat) (a2 : Int32) (a3 : Int32) : Option (Unit × k_S) :=
  some (((), (k_uI (k_uI (k_uP σ 6 (i0) (0) (some (a1))) 6 (i0) (1) (a2)) 6 (i0) (2) (a3))))
theorem j_X4_init (la : Launch) (hla : la.flags = flags0) (G : k_G) (σ : k_S) (i0 : Nat) (a1 : Nat) (a2 : Int32) (a3 : Int32) (x : (Unit × k_S)) (hoc : f_X4_init σ i0 a1 a2 a3 = some x) : k_Ct la G yX4_init (k_ws yX4_init cX4_init 4 (Option.none : Option ClassFile.FieldType)) { frames := 1, cells := 0, slots := 0, locals := 12 } [k_p 6 (i0), k_p 3 (a1), k_i (a2), k_i (a3)] σ (.inl (k_mU x.1, x.2)) 0 0 := by
  refine k_body hla (by decide +kernel) (k_wl rfl) (Nat.le_of_ble_eq_true rfl) (fun X h hEn hMe => ?_)
  show k_W X σ 0 0 0 [some (k_p 6 (i0)), some (k_p 3 (a1)), some (k_i (a2)), some (k_i (a3))] []
  unfold f_X4_init at hoc
  refine r_aload_n h dX4_init_0 rfl ?_
  refine r_objInit h hMe wd_706 wd_37 wd_38 dX4_init_1 (by decide) ?_
  refine r_aload_n h dX4_init_4 rfl ?_
  refine r_aload_n h dX4_init_5 rfl ?_
  refine r_putR h kp_X4_7 (fun _ => k_Me.nm hMe) dX4_init_6 rfl rfl (by decide) rfl rfl ?_
  refine r_aload_n h dX4_init_9 rfl ?_
  refine r_iload_n h dX4_init_10 rfl ?_
  refine r_putIF (x := a2) h kp_X4_13 (k_Me.nm hMe) dX4_init_11 rfl rfl (by decide) rfl rfl (k_fit_int _) ?_
  refine r_aload_n h dX4_init_14 rfl ?_
  refine r_iload_n h dX4_init_15 rfl ?_
  refine r_putI (x := a3) h kp_X4_17 dX4_init_16 rfl rfl (by decide) rfl rfl (k_fit_int _) ?_
  cases hoc
  exact r_return h hEn dX4_init_19 rfl rfl (by decide) (by decide)
def f_X4_includes (σ : k_S) (i0 : Nat) (a1 : Int32) : Option Int32 :=
  (if a1 < k_I σ 6 (i0) (1) then some (0) else (if k_I σ 6 (i0) (2) ≤ a1 then some (0) else some (1)))
theorem j_X4_includes (la : Launch) (hla : la.flags = flags0) (G : k_G) (σ : k_S) (i0 : Nat) (a1 : Int32) (x : Int32) (hoc : f_X4_includes σ i0 a1 = some x) : k_Ct la G yX4_includes (k_ws yX4_includes cX4_includes 2 (Option.some ClassFile.FieldType.boolean)) { frames := 0, cells := 0, slots := 0, locals := 1 } [k_p 6 (i0), k_i (a1)] σ (.inl (k_mI x, σ)) 0 0 := by
  refine k_body hla (by decide +kernel) (k_wl rfl) (Nat.le_of_ble_eq_true rfl) (fun X h hEn hMe => ?_)
  show k_W X σ 0 0 0 [some (k_p 6 (i0)), some (k_i (a1))] []
  unfold f_X4_includes at hoc
  refine r_aload_n h dX4_includes_0 rfl ?_
  refine r_getI h kf_X4_13 dX4_includes_1 rfl rfl (by decide) rfl ?_
  refine r_iload_n h dX4_includes_4 rfl ?_
  refine r_icmp_gt (tgt := 20) h dX4_includes_5 (by decide) (fun c1 => ?_) (fun c1 => ?_)
  · replace hoc := (if_pos c1).symm.trans hoc
    refine r_iconst (v := 0) h dX4_includes_20 (by decide) ?_
    cases hoc
    exact r_ireturn h hEn dX4_includes_21 rfl (by decide) rfl (by decide) (by decide)
  · replace hoc := (if_neg c1).symm.trans hoc
    refine r_iload_n h dX4_includes_8 rfl ?_
    refine r_aload_n h dX4_includes_9 rfl ?_
    refine r_getI h kf_X4_17 dX4_includes_10 rfl rfl (by decide) rfl ?_
    refine r_icmp_ge (tgt := 20) h dX4_includes_13 (by decide) (fun c2 => ?_) (fun c2 => ?_)
    · replace hoc := (if_pos c2).symm.trans hoc
      refine r_iconst (v := 0) h dX4_includes_20 (by decide) ?_
      cases hoc
      exact r_ireturn h hEn dX4_includes_21 rfl (by decide) rfl (by decide) (by decide)
    · replace hoc := (if_neg c2).symm.trans hoc
      refine r_iconst (v := 1) h dX4_includes_16 (by decide) ?_
      refine r_goto (tgt := 21) h dX4_includes_17 (by decide) ?_
      cases hoc
      exact r_ireturn h hEn dX4_includes_21 rfl (by decide) rfl (by decide) (by decide)
