/-! ===== walks 13 (written by wip/whole/gen_walk.py, emit_walk.py) ===== -/
def f_X8_decides (σ : k_S) (i0 : Nat) (a1 : Int32) (a2 : Int32) (a3 : Int32) (a4 : Int32) : Option (Unit × k_S) :=
  ((k_P σ 1 (i0) (25)).bind fun j1 => ((f_X8_outcomeBy σ (i0) (a1) (a2) (a3)).bind fun v3 => (if 0 ≤ a1 ∧ (a1).toNatClampNeg < 20 then (if k_isC (v3) = true then ((k_P σ 1 (i0) (24)).bind fun j7 => (if 0 ≤ a1 ∧ (a1).toNatClampNeg < 20 then ((k_P σ 1 (i0) (21)).bind fun j10 => (if 0 ≤ a1 ∧ (a1).toNatClampNeg < 20 then ((k_P σ 1 (i0) (20)).bind fun j13 => (if 0 ≤ a1 ∧ (a1).toNatClampNeg < 20 then (if 0 ≤ a1 ∧ (a1).toNatClampNeg < 20 then (if v3 = (103 : Int32) then ((k_P σ 1 (i0) (22)).bind fun j18 => (if 0 ≤ a1 ∧ (a1).toNatClampNeg < 20 then ((k_P σ 1 (i0) (23)).bind fun j21 => ((k_P σ 1 (i0) (3)).bind fun j23 => ((f_X8_rule (k_uI (k_uI (k_uI (k_uI (k_uI (k_uI σ 39 (j1) ((a1).toNatClampNeg) (v3)) 38 (j7) ((a1).toNatClampNeg) (100)) 35 (j10) ((a1).toNatClampNeg) (a4)) 34 (j13) ((a1).toNatClampNeg) (k_I σ 1 (i0) (29))) 1 (i0) (29) ((k_I σ 1 (i0) (29) + 1))) 36 (j18) ((a1).toNatClampNeg) (k_I σ 1 (i0) (14))) (i0) (a1)).bind fun v25 => (if 0 ≤ v25 ∧ (v25).toNatClampNeg < 12 then (if 0 ≤ a1 ∧ (a1).toNatClampNeg < 20 then some (((), (k_uI (k_uI (k_uI (k_uI (k_uI (k_uI (k_uI σ 39 (j1) ((a1).toNatClampNeg) (v3)) 38 (j7) ((a1).toNatClampNeg) (100)) 35 (j10) ((a1).toNatClampNeg) (a4)) 34 (j13) ((a1).toNatClampNeg) (k_I σ 1 (i0) (29))) 1 (i0) (29) ((k_I σ 1 (i0) (29) + 1))) 36 (j18) ((a1).toNatClampNeg) (k_I σ 1 (i0) (14))) 37 (j21) ((a1).toNatClampNeg) ((k_I σ 1 (i0) (14) + k_I σ 22 (j23) ((v25).toNatClampNeg)))))) else none) else none)))) else none)) else some (((), (k_uI (k_uI (k_uI (k_uI (k_uI σ 39 (j1) ((a1).toNatClampNeg) (v3)) 38 (j7) ((a1).toNatClampNeg) (100)) 35 (j10) ((a1).toNatClampNeg) (a4)) 34 (j13) ((a1).toNatClampNeg) (k_I σ 1 (i0) (29))) 1 (i0) (29) ((k_I σ 1 (i0) (29) + 1)))))) else none) else none)) else none)) else none)) else none) else none)))
theorem j_X8_decides (la : Launch) (hla : la.flags = flags0) (G : k_G) (σ : k_S) (i0 : Nat) (a1 : Int32) (a2 : Int32) (a3 : Int32) (a4 : Int32) (x : (Unit × k_S)) (hoc : f_X8_decides σ i0 a1 a2 a3 a4 = some x) : k_Ct la G yX8_decides (k_ws yX8_decides cX8_decides 5 (Option.none : Option ClassFile.FieldType)) { frames := 4, cells := 0, slots := 0, locals := 93 } [k_p 1 (i0), k_i (a1), k_i (a2), k_i (a3), k_i (a4)] σ (.inl (k_mU x.1, x.2)) 0 0 := by
  refine k_body hla (by decide +kernel) (k_wl rfl) (Nat.le_of_ble_eq_true rfl) (fun X h hEn hMe => ?_)
  show k_W X σ 0 0 0 [some (k_p 1 (i0)), some (k_i (a1)), some (k_i (a2)), some (k_i (a3)), some (k_i (a4))] []
  unfold f_X8_decides at hoc
  refine r_aload_n h dX8_decides_0 rfl ?_
  obtain ⟨j1, q2, hoc⟩ := k_ob hoc
  refine r_getR h kf_X8_73 dX8_decides_1 rfl rfl (by decide) rfl (Eq.trans rfl q2) ?_
  refine r_iload_n h dX8_decides_4 rfl ?_
  refine r_aload_n h dX8_decides_5 rfl ?_
  refine r_iload_n h dX8_decides_6 rfl ?_
  refine r_iload_n h dX8_decides_7 rfl ?_
  refine r_iload_n h dX8_decides_8 rfl ?_
  obtain ⟨v3, q4, hoc⟩ := k_ob hoc
  refine r_callV h hMe (rest := [k_i (a1), k_p 39 (j1)]) (as := [k_i (a1), k_i (a2), k_i (a3)]) (oc := .inl (k_mI v3, σ)) (j_X8_outcomeBy la hla G _ (i0) (a1) (a2) (a3) _ q4) kl_X8_155 dX8_decides_9 rfl rfl rfl rfl rfl ⟨rfl, rfl, Nat.le_of_ble_eq_true rfl, Nat.le_of_ble_eq_true rfl, Nat.le_of_ble_eq_true rfl, Nat.le_of_ble_eq_true rfl, Nat.le_of_ble_eq_true rfl⟩ (fun E q => by cases q) (fun r s q => ?_)
  cases q
  show k_W X _ _ _ _ _ ([k_i (v3), k_i (a1), k_p 39 (j1)])
  obtain ⟨c5, hoc⟩ := k_gd hoc
  obtain ⟨c6, hoc⟩ := k_gd hoc
  refine r_castore (y := (a1).toNatClampNeg) (t := 0) (x := v3) h dX8_decides_12 rfl rfl rfl rfl (k_fC c6) (k_xx c5.1) c5.2 (by decide) ?_
  refine r_aload_n h dX8_decides_13 rfl ?_
  obtain ⟨j7, q8, hoc⟩ := k_ob hoc
  refine r_getR h kf_X8_69 dX8_decides_14 rfl rfl (by decide) rfl (Eq.trans rfl q8) ?_
  refine r_iload_n h dX8_decides_17 rfl ?_
  refine r_bipush (v := 100) h dX8_decides_18 (by decide) ?_
  obtain ⟨c9, hoc⟩ := k_gd hoc
  refine r_castore (y := (a1).toNatClampNeg) (t := 0) (x := 100) h dX8_decides_20 rfl rfl rfl rfl ⟨by decide, by decide⟩ (k_xx c9.1) c9.2 (by decide) ?_
  refine r_aload_n h dX8_decides_21 rfl ?_
  obtain ⟨j10, q11, hoc⟩ := k_ob hoc
  refine r_getR h kf_X8_60 dX8_decides_22 rfl rfl (by decide) rfl (Eq.trans rfl q11) ?_
  refine r_iload_n h dX8_decides_25 rfl ?_
  refine r_iload h dX8_decides_26 rfl ?_
  obtain ⟨c12, hoc⟩ := k_gd hoc
  refine r_iastore (y := (a1).toNatClampNeg) (t := 0) (x := a4) h dX8_decides_28 rfl rfl rfl rfl (k_fit_int _) (k_xx c12.1) c12.2 (by decide) ?_
  refine r_aload_n h dX8_decides_29 rfl ?_
  obtain ⟨j13, q14, hoc⟩ := k_ob hoc
  refine r_getR h kf_X8_57 dX8_decides_30 rfl rfl (by decide) rfl (Eq.trans rfl q14) ?_
  refine r_iload_n h dX8_decides_33 rfl ?_
  refine r_aload_n h dX8_decides_34 rfl ?_
  refine r_getI h kf_X8_159 dX8_decides_35 rfl rfl (by decide) rfl ?_
  refine r_eqI (Eq.trans (k_I_l (by decide)) (Eq.trans (k_I_l (by decide)) (k_I_l (by decide)))) ?_
  obtain ⟨c15, hoc⟩ := k_gd hoc
  refine r_iastore (y := (a1).toNatClampNeg) (t := 0) (x := k_I σ 1 (i0) (29)) h dX8_decides_38 rfl rfl rfl rfl (k_fit_int _) (k_xx c15.1) c15.2 (by decide) ?_
  refine r_aload_n h dX8_decides_39 rfl ?_
  refine r_dup h dX8_decides_40 rfl ?_
  refine r_getI h kf_X8_159 dX8_decides_41 rfl rfl (by decide) rfl ?_
  refine r_eqI (Eq.trans (k_I_l (by decide)) (Eq.trans (k_I_l (by decide)) (Eq.trans (k_I_l (by decide)) (k_I_l (by decide))))) ?_
  refine r_iconst (v := 1) h dX8_decides_44 (by decide) ?_
  refine r_iadd h dX8_decides_45 ?_
  refine r_putI (x := (k_I σ 1 (i0) (29) + 1)) h kp_X8_159 dX8_decides_46 rfl rfl (by decide) rfl rfl (k_fit_int _) ?_
  refine r_aload_n h dX8_decides_49 rfl ?_
  refine r_getR h kf_X8_73 dX8_decides_50 rfl rfl (by decide) rfl (Eq.trans rfl q2) ?_
  refine r_iload_n h dX8_decides_53 rfl ?_
  obtain ⟨c16, hoc⟩ := k_gd hoc
  refine r_caload (y := (a1).toNatClampNeg) (t := 0) h dX8_decides_54 rfl rfl rfl (k_xx c16.1) c16.2 (by decide) ?_
  refine r_eqI (Eq.trans (k_I_l (by decide)) (Eq.trans (k_I_l (by decide)) (Eq.trans (k_I_l (by decide)) (Eq.trans (k_I_l (by decide)) k_I_s)))) ?_
  refine r_bipush (v := 103) h dX8_decides_55 (by decide) ?_
  refine r_icmp_eq (tgt := 61) h dX8_decides_57 (by decide) (fun c17 => ?_) (fun c17 => ?_)
  · replace hoc := (if_pos c17).symm.trans hoc
    refine r_aload_n h dX8_decides_61 rfl ?_
    obtain ⟨j18, q19, hoc⟩ := k_ob hoc
    refine r_getR h kf_X8_63 dX8_decides_62 rfl rfl (by decide) rfl (Eq.trans rfl q19) ?_
    refine r_iload_n h dX8_decides_65 rfl ?_
    refine r_aload_n h dX8_decides_66 rfl ?_
    refine r_getI h kf_X8_100 dX8_decides_67 rfl rfl (by decide) rfl ?_
    refine r_eqI (Eq.trans (k_I_k (by decide)) (Eq.trans (k_I_l (by decide)) (Eq.trans (k_I_l (by decide)) (Eq.trans (k_I_l (by decide)) (k_I_l (by decide)))))) ?_
    obtain ⟨c20, hoc⟩ := k_gd hoc
    refine r_iastore (y := (a1).toNatClampNeg) (t := 0) (x := k_I σ 1 (i0) (14)) h dX8_decides_70 rfl rfl rfl rfl (k_fit_int _) (k_xx c20.1) c20.2 (by decide) ?_
    refine r_aload_n h dX8_decides_71 rfl ?_
    obtain ⟨j21, q22, hoc⟩ := k_ob hoc
    refine r_getR h kf_X8_66 dX8_decides_72 rfl rfl (by decide) rfl (Eq.trans rfl q22) ?_
    refine r_iload_n h dX8_decides_75 rfl ?_
    refine r_aload_n h dX8_decides_76 rfl ?_
    refine r_getI h kf_X8_100 dX8_decides_77 rfl rfl (by decide) rfl ?_
    refine r_eqI (Eq.trans (k_I_l (by decide)) (Eq.trans (k_I_k (by decide)) (Eq.trans (k_I_l (by decide)) (Eq.trans (k_I_l (by decide)) (Eq.trans (k_I_l (by decide)) (k_I_l (by decide))))))) ?_
    refine r_aload_n h dX8_decides_80 rfl ?_
    obtain ⟨j23, q24, hoc⟩ := k_ob hoc
    refine r_getR h kf_X8_16 dX8_decides_81 rfl rfl (by decide) rfl (Eq.trans rfl q24) ?_
    refine r_aload_n h dX8_decides_84 rfl ?_
    refine r_iload_n h dX8_decides_85 rfl ?_
    obtain ⟨v25, q26, hoc⟩ := k_ob hoc
    refine r_callV h hMe (rest := [k_p 22 (j23), k_i (k_I σ 1 (i0) (14)), k_i (a1), k_p 37 (j21)]) (as := [k_i (a1)]) (oc := .inl (k_mI v25, (k_uI (k_uI (k_uI (k_uI (k_uI (k_uI σ 39 (j1) ((a1).toNatClampNeg) (v3)) 38 (j7) ((a1).toNatClampNeg) (100)) 35 (j10) ((a1).toNatClampNeg) (a4)) 34 (j13) ((a1).toNatClampNeg) (k_I σ 1 (i0) (29))) 1 (i0) (29) ((k_I σ 1 (i0) (29) + 1))) 36 (j18) ((a1).toNatClampNeg) (k_I σ 1 (i0) (14))))) (j_X8_rule la hla G _ (i0) (a1) _ q26) kl_X8_127 dX8_decides_86 rfl rfl rfl rfl rfl ⟨rfl, rfl, Nat.le_of_ble_eq_true rfl, Nat.le_of_ble_eq_true rfl, Nat.le_of_ble_eq_true rfl, Nat.le_of_ble_eq_true rfl, Nat.le_of_ble_eq_true rfl⟩ (fun E q => by cases q) (fun r s q => ?_)
    cases q
    show k_W X _ _ _ _ _ ([k_i (v25), k_p 22 (j23), k_i (k_I σ 1 (i0) (14)), k_i (a1), k_p 37 (j21)])
    obtain ⟨c27, hoc⟩ := k_gd hoc
    refine r_iaload (y := (v25).toNatClampNeg) (t := 0) h dX8_decides_89 rfl rfl rfl (k_xx c27.1) c27.2 (by decide) ?_
    refine r_eqI (Eq.trans (k_I_l (by decide)) (Eq.trans (k_I_l (by decide)) (Eq.trans (k_I_l (by decide)) (Eq.trans (k_I_l (by decide)) (Eq.trans (k_I_l (by decide)) (k_I_l (by decide))))))) ?_
    refine r_iadd h dX8_decides_90 ?_
    obtain ⟨c28, hoc⟩ := k_gd hoc
    refine r_iastore (y := (a1).toNatClampNeg) (t := 0) (x := (k_I σ 1 (i0) (14) + k_I σ 22 (j23) ((v25).toNatClampNeg))) h dX8_decides_91 rfl rfl rfl rfl (k_fit_int _) (k_xx c28.1) c28.2 (by decide) ?_
    cases hoc
    exact r_return h hEn dX8_decides_92 rfl rfl (by decide) (by decide)
  · replace hoc := (if_neg c17).symm.trans hoc
    cases hoc
    exact r_return h hEn dX8_decides_60 rfl rfl (by decide) (by decide)
def f_X8_file_l1 (t : Nat) (i0 : Nat) (a1 : Int32) (a2 : Int32) (a3 : Int32) (a4 : Int32) (b5 : Int32) (σ : k_S) (x6 : Int32) : Option (Int32 × k_S) := match t with
  | 0 => none
  | t + 1 => (if k_I σ 1 (i0) (12) ≤ x6 then some ((x6, σ)) else ((k_P σ 1 (i0) (24)).bind fun j43 => (if 0 ≤ b5 ∧ (b5).toNatClampNeg < 20 then (if k_I σ 38 (j43) ((b5).toNatClampNeg) = (111 : Int32) then ((k_P σ 1 (i0) (7)).bind fun j47 => (if 0 ≤ x6 ∧ (x6).toNatClampNeg < 4 then (if ((a3 >>> (k_I σ 26 (j47) ((x6).toNatClampNeg) &&& 31)) &&& 1) = (1 : Int32) then ((k_P σ 1 (i0) (8)).bind fun j51 => (if 0 ≤ x6 ∧ (x6).toNatClampNeg < 4 then (if a4 < k_I σ 27 (j51) ((x6).toNatClampNeg) then f_X8_file_l1 t i0 a1 a2 a3 a4 b5 σ ((x6 + 1)) else ((f_X8_decides σ (i0) (b5) ((a4 / 10)) (0) (x6)).bind fun v55 => f_X8_file_l1 t i0 a1 a2 a3 a4 b5 v55.2 ((x6 + 1)))) else none)) else f_X8_file_l1 t i0 a1 a2 a3 a4 b5 σ ((x6 + 1))) else none)) else some ((x6, σ))) else none)))
theorem j_X8_file_l1 (la : Launch) (hla : la.flags = flags0) (G : k_G) (X : k_X) (σ0 : k_S) (h : k_Ok X RX8 cX8_file 7) (hMe : k_Me X la G σ0 { frames := 5, cells := 0, slots := 0, locals := 117 } "file") (i0 : Nat) (a1 : Int32) (a2 : Int32) (a3 : Int32) (a4 : Int32) (b5 : Int32) : ∀ (t : Nat) (σ : k_S) (x6 : Int32) (e : (Int32 × k_S)), f_X8_file_l1 t i0 a1 a2 a3 a4 b5 σ x6 = some e → k_W X e.2 0 0 224 [some (k_p 1 (i0)), some (k_i (a1)), some (k_i (a2)), some (k_i (a3)), some (k_i (a4)), some (k_i (b5)), some (k_i (e.1))] [] → k_W X σ 0 0 156 [some (k_p 1 (i0)), some (k_i (a1)), some (k_i (a2)), some (k_i (a3)), some (k_i (a4)), some (k_i (b5)), some (k_i (x6))] [] := by
  intro t
  induction t with
  | zero =>
    intro σ x6 e hoc kk
    cases hoc
  | succ t ih =>
    intro σ x6 e hoc kk
    rw [f_X8_file_l1] at hoc
    refine r_iload h dX8_file_156 rfl ?_
    refine r_aload_n h dX8_file_158 rfl ?_
    refine r_getI h kf_X8_143 dX8_file_159 rfl rfl (by decide) rfl ?_
    refine r_icmp_ge (tgt := 224) h dX8_file_162 (by decide) (fun c42 => ?_) (fun c42 => ?_)
    · replace hoc := (if_pos c42).symm.trans hoc
      cases hoc
      exact kk
    · replace hoc := (if_neg c42).symm.trans hoc
      refine r_aload_n h dX8_file_165 rfl ?_
      obtain ⟨j43, q44, hoc⟩ := k_ob hoc
      refine r_getR h kf_X8_69 dX8_file_166 rfl rfl (by decide) rfl (Eq.trans rfl q44) ?_
      refine r_iload h dX8_file_169 rfl ?_
      obtain ⟨c45, hoc⟩ := k_gd hoc
      refine r_caload (y := (b5).toNatClampNeg) (t := 0) h dX8_file_171 rfl rfl rfl (k_xx c45.1) c45.2 (by decide) ?_
      refine r_bipush (v := 111) h dX8_file_172 (by decide) ?_
      refine r_icmp_ne (tgt := 224) h dX8_file_174 (by decide) (fun c46 => ?_) (fun c46 => ?_)
      · replace hoc := (if_neg c46).symm.trans hoc
        cases hoc
        exact kk
      · replace hoc := (if_pos c46).symm.trans hoc
        refine r_iload_n h dX8_file_177 rfl ?_
        refine r_aload_n h dX8_file_178 rfl ?_
        obtain ⟨j47, q48, hoc⟩ := k_ob hoc
        refine r_getR h kf_X8_28 dX8_file_179 rfl rfl (by decide) rfl (Eq.trans rfl q48) ?_
        refine r_iload h dX8_file_182 rfl ?_
        obtain ⟨c49, hoc⟩ := k_gd hoc
        refine r_iaload (y := (x6).toNatClampNeg) (t := 0) h dX8_file_184 rfl rfl rfl (k_xx c49.1) c49.2 (by decide) ?_
        refine r_ishr (v := (a3 >>> (k_I σ 26 (j47) ((x6).toNatClampNeg) &&& 31))) h dX8_file_185 rfl ?_
        refine r_iconst (v := 1) h dX8_file_186 (by decide) ?_
        refine r_iand h dX8_file_187 ?_
        refine r_iconst (v := 1) h dX8_file_188 (by decide) ?_
        refine r_icmp_ne (tgt := 218) h dX8_file_189 (by decide) (fun c50 => ?_) (fun c50 => ?_)
        · replace hoc := (if_neg c50).symm.trans hoc
          refine r_iinc (v := (x6 + 1)) (L' := [some (k_p 1 (i0)), some (k_i (a1)), some (k_i (a2)), some (k_i (a3)), some (k_i (a4)), some (k_i (b5)), some (k_i ((x6 + 1)))]) h dX8_file_218 rfl rfl (by decide) rfl ?_
          refine r_goto (tgt := 156) h dX8_file_221 (by decide) ?_
          exact r_forget (L' := [some (k_p 1 (i0)), some (k_i (a1)), some (k_i (a2)), some (k_i (a3)), some (k_i (a4)), some (k_i (b5)), some (k_i ((x6 + 1)))]) (k_le_ok ⟨rfl, ⟨rfl, ⟨rfl, ⟨rfl, ⟨rfl, ⟨rfl, ⟨rfl, trivial⟩⟩⟩⟩⟩⟩⟩) (ih σ ((x6 + 1)) _ hoc kk)
        · replace hoc := (if_pos c50).symm.trans hoc
          refine r_aload_n h dX8_file_192 rfl ?_
          obtain ⟨j51, q52, hoc⟩ := k_ob hoc
          refine r_getR h kf_X8_31 dX8_file_193 rfl rfl (by decide) rfl (Eq.trans rfl q52) ?_
          refine r_iload h dX8_file_196 rfl ?_
          obtain ⟨c53, hoc⟩ := k_gd hoc
          refine r_iaload (y := (x6).toNatClampNeg) (t := 0) h dX8_file_198 rfl rfl rfl (k_xx c53.1) c53.2 (by decide) ?_
          refine r_iload h dX8_file_199 rfl ?_
          refine r_icmp_gt (tgt := 218) h dX8_file_201 (by decide) (fun c54 => ?_) (fun c54 => ?_)
          · replace hoc := (if_pos c54).symm.trans hoc
            refine r_iinc (v := (x6 + 1)) (L' := [some (k_p 1 (i0)), some (k_i (a1)), some (k_i (a2)), some (k_i (a3)), some (k_i (a4)), some (k_i (b5)), some (k_i ((x6 + 1)))]) h dX8_file_218 rfl rfl (by decide) rfl ?_
            refine r_goto (tgt := 156) h dX8_file_221 (by decide) ?_
            exact r_forget (L' := [some (k_p 1 (i0)), some (k_i (a1)), some (k_i (a2)), some (k_i (a3)), some (k_i (a4)), some (k_i (b5)), some (k_i ((x6 + 1)))]) (k_le_ok ⟨rfl, ⟨rfl, ⟨rfl, ⟨rfl, ⟨rfl, ⟨rfl, ⟨rfl, trivial⟩⟩⟩⟩⟩⟩⟩) (ih σ ((x6 + 1)) _ hoc kk)
          · replace hoc := (if_neg c54).symm.trans hoc
            refine r_aload_n h dX8_file_204 rfl ?_
            refine r_iload h dX8_file_205 rfl ?_
            refine r_iload h dX8_file_207 rfl ?_
            refine r_bipush (v := 10) h dX8_file_209 (by decide) ?_
            refine r_idiv h dX8_file_211 (by decide) ?_
            refine r_iconst (v := 0) h dX8_file_212 (by decide) ?_
            refine r_iload h dX8_file_213 rfl ?_
            obtain ⟨v55, q56, hoc⟩ := k_ob hoc
            refine r_callV h hMe (rest := []) (as := [k_i (b5), k_i ((a4 / 10)), k_i (0), k_i (x6)]) (oc := .inl (k_mU v55.1, v55.2)) (j_X8_decides la hla G _ (i0) (b5) ((a4 / 10)) (0) (x6) _ q56) kl_X8_162 dX8_file_215 rfl rfl rfl rfl rfl ⟨rfl, rfl, Nat.le_of_ble_eq_true rfl, Nat.le_of_ble_eq_true rfl, Nat.le_of_ble_eq_true rfl, Nat.le_of_ble_eq_true rfl, Nat.le_of_ble_eq_true rfl⟩ (fun E q => by cases q) (fun r s q => ?_)
            cases q
            show k_W X _ _ _ _ _ ([])
            refine r_iinc (v := (x6 + 1)) (L' := [some (k_p 1 (i0)), some (k_i (a1)), some (k_i (a2)), some (k_i (a3)), some (k_i (a4)), some (k_i (b5)), some (k_i ((x6 + 1)))]) h dX8_file_218 rfl rfl (by decide) rfl ?_
            refine r_goto (tgt := 156) h dX8_file_221 (by decide) ?_
            exact r_forget (L' := [some (k_p 1 (i0)), some (k_i (a1)), some (k_i (a2)), some (k_i (a3)), some (k_i (a4)), some (k_i (b5)), some (k_i ((x6 + 1)))]) (k_le_ok ⟨rfl, ⟨rfl, ⟨rfl, ⟨rfl, ⟨rfl, ⟨rfl, ⟨rfl, trivial⟩⟩⟩⟩⟩⟩⟩) (ih v55.2 ((x6 + 1)) _ hoc kk)
def f_X8_file (σ : k_S) (i0 : Nat) (a1 : Int32) (a2 : Int32) (a3 : Int32) (a4 : Int32) : Option (Int32 × k_S) :=
  ((f_X8_isUser (k_uI σ 1 (i0) (0) (0)) (i0) (a1)).bind fun v1 => (if v1 = 0 then ((f_X8_fails (k_uI σ 1 (i0) (0) (0)) (i0) (1)).bind fun v4 => some ((v4.1, v4.2))) else ((f_X8_isUser (k_uI σ 1 (i0) (0) (0)) (i0) (a2)).bind fun v6 => (if v6 = 0 then ((f_X8_fails (k_uI σ 1 (i0) (0) (0)) (i0) (1)).bind fun v63 => some ((v63.1, v63.2))) else (if a1 = a2 then ((f_X8_fails (k_uI σ 1 (i0) (0) (0)) (i0) (2)).bind fun v10 => some ((v10.1, v10.2))) else ((f_X8_isBetween (k_uI σ 1 (i0) (0) (0)) (a3) (1) (255)).bind fun v12 => (if v12 = 0 then ((f_X8_fails (k_uI σ 1 (i0) (0) (0)) (i0) (2)).bind fun v15 => some ((v15.1, v15.2))) else ((f_X8_isBetween (k_uI σ 1 (i0) (0) (0)) (a4) (0) (100)).bind fun v17 => (if v17 = 0 then ((f_X8_fails (k_uI σ 1 (i0) (0) (0)) (i0) (2)).bind fun v61 => some ((v61.1, v61.2))) else (if k_I σ 1 (i0) (28) = (20 : Int32) then ((f_X8_fails (k_uI σ 1 (i0) (0) (0)) (i0) (3)).bind fun v59 => some ((v59.1, v59.2))) else ((k_P σ 1 (i0) (15)).bind fun j21 => (if 0 ≤ k_I σ 1 (i0) (28) ∧ (k_I σ 1 (i0) (28)).toNatClampNeg < 20 then ((k_P σ 1 (i0) (16)).bind fun j24 => (if 0 ≤ k_I σ 1 (i0) (28) ∧ (k_I σ 1 (i0) (28)).toNatClampNeg < 20 then ((k_P σ 1 (i0) (17)).bind fun j27 => (if 0 ≤ k_I σ 1 (i0) (28) ∧ (k_I σ 1 (i0) (28)).toNatClampNeg < 20 then ((k_P σ 1 (i0) (18)).bind fun j30 => (if 0 ≤ k_I σ 1 (i0) (28) ∧ (k_I σ 1 (i0) (28)).toNatClampNeg < 20 then ((k_P σ 1 (i0) (19)).bind fun j33 => (if 0 ≤ k_I σ 1 (i0) (28) ∧ (k_I σ 1 (i0) (28)).toNatClampNeg < 20 then ((k_P σ 1 (i0) (24)).bind fun j36 => (if 0 ≤ k_I σ 1 (i0) (28) ∧ (k_I σ 1 (i0) (28)).toNatClampNeg < 20 then ((k_P σ 1 (i0) (26)).bind fun j39 => (if 0 ≤ k_I σ 1 (i0) (28) ∧ (k_I σ 1 (i0) (28)).toNatClampNeg < 20 then ((f_X8_file_l1 200 i0 a1 a2 a3 a4 (k_I σ 1 (i0) (28)) (k_uI (k_uI (k_uI (k_uI (k_uI (k_uI (k_uI (k_uI (k_uI σ 1 (i0) (0) (0)) 29 (j21) ((k_I σ 1 (i0) (28)).toNatClampNeg) (a1)) 30 (j24) ((k_I σ 1 (i0) (28)).toNatClampNeg) (a2)) 31 (j27) ((k_I σ 1 (i0) (28)).toNatClampNeg) (a3)) 32 (j30) ((k_I σ 1 (i0) (28)).toNatClampNeg) (a4)) 33 (j33) ((k_I σ 1 (i0) (28)).toNatClampNeg) (k_I σ 1 (i0) (14))) 38 (j36) ((k_I σ 1 (i0) (28)).toNatClampNeg) (111)) 40 (j39) ((k_I σ 1 (i0) (28)).toNatClampNeg) (45)) 1 (i0) (28) ((k_I σ 1 (i0) (28) + 1))) (0)).bind fun v57 => some ((k_I σ 1 (i0) (28), v57.2))) else none)) else none)) else none)) else none)) else none)) else none)) else none))))))))))))
theorem j_X8_file (la : Launch) (hla : la.flags = flags0) (G : k_G) (σ : k_S) (i0 : Nat) (a1 : Int32) (a2 : Int32) (a3 : Int32) (a4 : Int32) (x : (Int32 × k_S)) (hoc : f_X8_file σ i0 a1 a2 a3 a4 = some x) : k_Ct la G yX8_file (k_ws yX8_file cX8_file 7 (Option.some ClassFile.FieldType.int)) { frames := 5, cells := 0, slots := 0, locals := 117 } [k_p 1 (i0), k_i (a1), k_i (a2), k_i (a3), k_i (a4)] σ (.inl (k_mI x.1, x.2)) 0 0 := by
  refine k_body hla (by decide +kernel) (k_wl rfl) (Nat.le_of_ble_eq_true rfl) (fun X h hEn hMe => ?_)
  show k_W X σ 0 0 0 [some (k_p 1 (i0)), some (k_i (a1)), some (k_i (a2)), some (k_i (a3)), some (k_i (a4)), none, none] []
  unfold f_X8_file at hoc
  refine r_aload_n h dX8_file_0 rfl ?_
  refine r_iconst (v := 0) h dX8_file_1 (by decide) ?_
  refine r_putI (x := 0) h kp_X8_84 dX8_file_2 rfl rfl (by decide) rfl rfl (k_fit_int _) ?_
  refine r_aload_n h dX8_file_5 rfl ?_
  refine r_iload_n h dX8_file_6 rfl ?_
  obtain ⟨v1, q2, hoc⟩ := k_ob hoc
  refine r_callV h hMe (rest := []) (as := [k_i (a1)]) (oc := .inl (k_mI v1, (k_uI σ 1 (i0) (0) (0)))) (j_X8_isUser la hla G _ (i0) (a1) _ q2) kl_X8_130 dX8_file_7 rfl rfl rfl rfl rfl ⟨rfl, rfl, Nat.le_of_ble_eq_true rfl, Nat.le_of_ble_eq_true rfl, Nat.le_of_ble_eq_true rfl, Nat.le_of_ble_eq_true rfl, Nat.le_of_ble_eq_true rfl⟩ (fun E q => by cases q) (fun r s q => ?_)
  cases q
  show k_W X _ _ _ _ _ ([k_i (v1)])
  refine r_if_eq (tgt := 21) h dX8_file_10 (by decide) (fun c3 => ?_) (fun c3 => ?_)
  · replace hoc := (if_pos c3).symm.trans hoc
    refine r_aload_n h dX8_file_21 rfl ?_
    refine r_iconst (v := 1) h dX8_file_22 (by decide) ?_
    obtain ⟨v4, q5, hoc⟩ := k_ob hoc
    refine r_callV h hMe (rest := []) (as := [k_i (1)]) (oc := .inl (k_mI v4.1, v4.2)) (j_X8_fails la hla G _ (i0) (1) _ q5) kl_X8_103 dX8_file_23 rfl rfl rfl rfl rfl ⟨rfl, rfl, Nat.le_of_ble_eq_true rfl, Nat.le_of_ble_eq_true rfl, Nat.le_of_ble_eq_true rfl, Nat.le_of_ble_eq_true rfl, Nat.le_of_ble_eq_true rfl⟩ (fun E q => by cases q) (fun r s q => ?_)
    cases q
    show k_W X _ _ _ _ _ ([k_i (v4.1)])
    cases hoc
    exact r_ireturn h hEn dX8_file_26 rfl rfl rfl (by decide) (by decide)
  · replace hoc := (if_neg c3).symm.trans hoc
    refine r_aload_n h dX8_file_13 rfl ?_
    refine r_iload_n h dX8_file_14 rfl ?_
    obtain ⟨v6, q7, hoc⟩ := k_ob hoc
    refine r_callV h hMe (rest := []) (as := [k_i (a2)]) (oc := .inl (k_mI v6, (k_uI σ 1 (i0) (0) (0)))) (j_X8_isUser la hla G _ (i0) (a2) _ q7) kl_X8_130 dX8_file_15 rfl rfl rfl rfl rfl ⟨rfl, rfl, Nat.le_of_ble_eq_true rfl, Nat.le_of_ble_eq_true rfl, Nat.le_of_ble_eq_true rfl, Nat.le_of_ble_eq_true rfl, Nat.le_of_ble_eq_true rfl⟩ (fun E q => by cases q) (fun r s q => ?_)
    cases q
    show k_W X _ _ _ _ _ ([k_i (v6)])
    refine r_if_ne (tgt := 27) h dX8_file_18 (by decide) (fun c8 => ?_) (fun c8 => ?_)
    · replace hoc := (if_neg c8).symm.trans hoc
      refine r_iload_n h dX8_file_27 rfl ?_
      refine r_iload_n h dX8_file_28 rfl ?_
      refine r_icmp_eq (tgt := 54) h dX8_file_29 (by decide) (fun c9 => ?_) (fun c9 => ?_)
      · replace hoc := (if_pos c9).symm.trans hoc
        refine r_aload_n h dX8_file_54 rfl ?_
        refine r_iconst (v := 2) h dX8_file_55 (by decide) ?_
        obtain ⟨v10, q11, hoc⟩ := k_ob hoc
        refine r_callV h hMe (rest := []) (as := [k_i (2)]) (oc := .inl (k_mI v10.1, v10.2)) (j_X8_fails la hla G _ (i0) (2) _ q11) kl_X8_103 dX8_file_56 rfl rfl rfl rfl rfl ⟨rfl, rfl, Nat.le_of_ble_eq_true rfl, Nat.le_of_ble_eq_true rfl, Nat.le_of_ble_eq_true rfl, Nat.le_of_ble_eq_true rfl, Nat.le_of_ble_eq_true rfl⟩ (fun E q => by cases q) (fun r s q => ?_)
        cases q
        show k_W X _ _ _ _ _ ([k_i (v10.1)])
        cases hoc
        exact r_ireturn h hEn dX8_file_59 rfl rfl rfl (by decide) (by decide)
      · replace hoc := (if_neg c9).symm.trans hoc
        refine r_iload_n h dX8_file_32 rfl ?_
        refine r_iconst (v := 1) h dX8_file_33 (by decide) ?_
        refine r_sipush (v := 255) h dX8_file_34 (by decide) ?_
        obtain ⟨v12, q13, hoc⟩ := k_ob hoc
        refine r_callS h hMe (rest := []) (as := [k_i (a3), k_i (1), k_i (255)]) (oc := .inl (k_mI v12, (k_uI σ 1 (i0) (0) (0)))) (j_X8_isBetween la hla G _ (a3) (1) (255) _ q13) kl_X8_90 dX8_file_37 rfl rfl  ⟨rfl, rfl, Nat.le_of_ble_eq_true rfl, Nat.le_of_ble_eq_true rfl, Nat.le_of_ble_eq_true rfl, Nat.le_of_ble_eq_true rfl, Nat.le_of_ble_eq_true rfl⟩ (fun E q => by cases q) (fun r s q => ?_)
        cases q
        show k_W X _ _ _ _ _ ([k_i (v12)])
        refine r_if_eq (tgt := 54) h dX8_file_40 (by decide) (fun c14 => ?_) (fun c14 => ?_)
        · replace hoc := (if_pos c14).symm.trans hoc
          refine r_aload_n h dX8_file_54 rfl ?_
          refine r_iconst (v := 2) h dX8_file_55 (by decide) ?_
          obtain ⟨v15, q16, hoc⟩ := k_ob hoc
          refine r_callV h hMe (rest := []) (as := [k_i (2)]) (oc := .inl (k_mI v15.1, v15.2)) (j_X8_fails la hla G _ (i0) (2) _ q16) kl_X8_103 dX8_file_56 rfl rfl rfl rfl rfl ⟨rfl, rfl, Nat.le_of_ble_eq_true rfl, Nat.le_of_ble_eq_true rfl, Nat.le_of_ble_eq_true rfl, Nat.le_of_ble_eq_true rfl, Nat.le_of_ble_eq_true rfl⟩ (fun E q => by cases q) (fun r s q => ?_)
          cases q
          show k_W X _ _ _ _ _ ([k_i (v15.1)])
          cases hoc
          exact r_ireturn h hEn dX8_file_59 rfl rfl rfl (by decide) (by decide)
        · replace hoc := (if_neg c14).symm.trans hoc
          refine r_iload h dX8_file_43 rfl ?_
          refine r_iconst (v := 0) h dX8_file_45 (by decide) ?_
          refine r_bipush (v := 100) h dX8_file_46 (by decide) ?_
          obtain ⟨v17, q18, hoc⟩ := k_ob hoc
          refine r_callS h hMe (rest := []) (as := [k_i (a4), k_i (0), k_i (100)]) (oc := .inl (k_mI v17, (k_uI σ 1 (i0) (0) (0)))) (j_X8_isBetween la hla G _ (a4) (0) (100) _ q18) kl_X8_90 dX8_file_48 rfl rfl  ⟨rfl, rfl, Nat.le_of_ble_eq_true rfl, Nat.le_of_ble_eq_true rfl, Nat.le_of_ble_eq_true rfl, Nat.le_of_ble_eq_true rfl, Nat.le_of_ble_eq_true rfl⟩ (fun E q => by cases q) (fun r s q => ?_)
          cases q
          show k_W X _ _ _ _ _ ([k_i (v17)])
          refine r_if_ne (tgt := 60) h dX8_file_51 (by decide) (fun c19 => ?_) (fun c19 => ?_)
          · replace hoc := (if_neg c19).symm.trans hoc
            refine r_aload_n h dX8_file_60 rfl ?_
            refine r_getI h kf_X8_97 dX8_file_61 rfl rfl (by decide) rfl ?_
            refine r_eqI (k_I_k (by decide)) ?_
            refine r_bipush (v := 20) h dX8_file_64 (by decide) ?_
            refine r_icmp_ne (tgt := 75) h dX8_file_66 (by decide) (fun c20 => ?_) (fun c20 => ?_)
            · replace hoc := (if_neg c20).symm.trans hoc
              refine r_aload_n h dX8_file_75 rfl ?_
              refine r_getI h kf_X8_97 dX8_file_76 rfl rfl (by decide) rfl ?_
              refine r_eqI (k_I_k (by decide)) ?_
              refine r_istore (L' := [some (k_p 1 (i0)), some (k_i (a1)), some (k_i (a2)), some (k_i (a3)), some (k_i (a4)), some (k_i (k_I σ 1 (i0) (28))), none]) h dX8_file_79 (by decide) rfl ?_
              refine r_aload_n h dX8_file_81 rfl ?_
              obtain ⟨j21, q22, hoc⟩ := k_ob hoc
              refine r_getR h kf_X8_42 dX8_file_82 rfl rfl (by decide) rfl (Eq.trans rfl q22) ?_
              refine r_iload h dX8_file_85 rfl ?_
              refine r_iload_n h dX8_file_87 rfl ?_
              obtain ⟨c23, hoc⟩ := k_gd hoc
              refine r_iastore (y := (k_I σ 1 (i0) (28)).toNatClampNeg) (t := 0) (x := a1) h dX8_file_88 rfl rfl rfl rfl (k_fit_int _) (k_xx c23.1) c23.2 (by decide) ?_
              refine r_aload_n h dX8_file_89 rfl ?_
              obtain ⟨j24, q25, hoc⟩ := k_ob hoc
              refine r_getR h kf_X8_45 dX8_file_90 rfl rfl (by decide) rfl (Eq.trans rfl q25) ?_
              refine r_iload h dX8_file_93 rfl ?_
              refine r_iload_n h dX8_file_95 rfl ?_
              obtain ⟨c26, hoc⟩ := k_gd hoc
              refine r_iastore (y := (k_I σ 1 (i0) (28)).toNatClampNeg) (t := 0) (x := a2) h dX8_file_96 rfl rfl rfl rfl (k_fit_int _) (k_xx c26.1) c26.2 (by decide) ?_
              refine r_aload_n h dX8_file_97 rfl ?_
              obtain ⟨j27, q28, hoc⟩ := k_ob hoc
              refine r_getR h kf_X8_48 dX8_file_98 rfl rfl (by decide) rfl (Eq.trans rfl q28) ?_
              refine r_iload h dX8_file_101 rfl ?_
              refine r_iload_n h dX8_file_103 rfl ?_
              obtain ⟨c29, hoc⟩ := k_gd hoc
              refine r_iastore (y := (k_I σ 1 (i0) (28)).toNatClampNeg) (t := 0) (x := a3) h dX8_file_104 rfl rfl rfl rfl (k_fit_int _) (k_xx c29.1) c29.2 (by decide) ?_
              refine r_aload_n h dX8_file_105 rfl ?_
              obtain ⟨j30, q31, hoc⟩ := k_ob hoc
              refine r_getR h kf_X8_51 dX8_file_106 rfl rfl (by decide) rfl (Eq.trans rfl q31) ?_
              refine r_iload h dX8_file_109 rfl ?_
              refine r_iload h dX8_file_111 rfl ?_
              obtain ⟨c32, hoc⟩ := k_gd hoc
              refine r_iastore (y := (k_I σ 1 (i0) (28)).toNatClampNeg) (t := 0) (x := a4) h dX8_file_113 rfl rfl rfl rfl (k_fit_int _) (k_xx c32.1) c32.2 (by decide) ?_
              refine r_aload_n h dX8_file_114 rfl ?_
              obtain ⟨j33, q34, hoc⟩ := k_ob hoc
              refine r_getR h kf_X8_54 dX8_file_115 rfl rfl (by decide) rfl (Eq.trans rfl q34) ?_
              refine r_iload h dX8_file_118 rfl ?_
              refine r_aload_n h dX8_file_120 rfl ?_
              refine r_getI h kf_X8_100 dX8_file_121 rfl rfl (by decide) rfl ?_
              refine r_eqI (Eq.trans (k_I_l (by decide)) (Eq.trans (k_I_l (by decide)) (Eq.trans (k_I_l (by decide)) (Eq.trans (k_I_l (by decide)) (k_I_k (by decide)))))) ?_
              obtain ⟨c35, hoc⟩ := k_gd hoc
              refine r_iastore (y := (k_I σ 1 (i0) (28)).toNatClampNeg) (t := 0) (x := k_I σ 1 (i0) (14)) h dX8_file_124 rfl rfl rfl rfl (k_fit_int _) (k_xx c35.1) c35.2 (by decide) ?_
              refine r_aload_n h dX8_file_125 rfl ?_
              obtain ⟨j36, q37, hoc⟩ := k_ob hoc
              refine r_getR h kf_X8_69 dX8_file_126 rfl rfl (by decide) rfl (Eq.trans rfl q37) ?_
              refine r_iload h dX8_file_129 rfl ?_
              refine r_bipush (v := 111) h dX8_file_131 (by decide) ?_
              obtain ⟨c38, hoc⟩ := k_gd hoc
              refine r_castore (y := (k_I σ 1 (i0) (28)).toNatClampNeg) (t := 0) (x := 111) h dX8_file_133 rfl rfl rfl rfl ⟨by decide, by decide⟩ (k_xx c38.1) c38.2 (by decide) ?_
              refine r_aload_n h dX8_file_134 rfl ?_
              obtain ⟨j39, q40, hoc⟩ := k_ob hoc
              refine r_getR h kf_X8_76 dX8_file_135 rfl rfl (by decide) rfl (Eq.trans rfl q40) ?_
              refine r_iload h dX8_file_138 rfl ?_
              refine r_bipush (v := 45) h dX8_file_140 (by decide) ?_
              obtain ⟨c41, hoc⟩ := k_gd hoc
              refine r_castore (y := (k_I σ 1 (i0) (28)).toNatClampNeg) (t := 0) (x := 45) h dX8_file_142 rfl rfl rfl rfl ⟨by decide, by decide⟩ (k_xx c41.1) c41.2 (by decide) ?_
              refine r_aload_n h dX8_file_143 rfl ?_
              refine r_dup h dX8_file_144 rfl ?_
              refine r_getI h kf_X8_97 dX8_file_145 rfl rfl (by decide) rfl ?_
              refine r_eqI (Eq.trans (k_I_l (by decide)) (Eq.trans (k_I_l (by decide)) (Eq.trans (k_I_l (by decide)) (Eq.trans (k_I_l (by decide)) (Eq.trans (k_I_l (by decide)) (Eq.trans (k_I_l (by decide)) (Eq.trans (k_I_l (by decide)) (k_I_k (by decide))))))))) ?_
              refine r_iconst (v := 1) h dX8_file_148 (by decide) ?_
              refine r_iadd h dX8_file_149 ?_
              refine r_putI (x := (k_I σ 1 (i0) (28) + 1)) h kp_X8_97 dX8_file_150 rfl rfl (by decide) rfl rfl (k_fit_int _) ?_
              refine r_iconst (v := 0) h dX8_file_153 (by decide) ?_
              refine r_istore (L' := [some (k_p 1 (i0)), some (k_i (a1)), some (k_i (a2)), some (k_i (a3)), some (k_i (a4)), some (k_i (k_I σ 1 (i0) (28))), some (k_i (0))]) h dX8_file_154 (by decide) rfl ?_
              obtain ⟨v57, q58, hoc⟩ := k_ob hoc
              refine j_X8_file_l1 la hla G X σ h hMe i0 a1 a2 a3 a4 (k_I σ 1 (i0) (28)) 200 (k_uI (k_uI (k_uI (k_uI (k_uI (k_uI (k_uI (k_uI (k_uI σ 1 (i0) (0) (0)) 29 (j21) ((k_I σ 1 (i0) (28)).toNatClampNeg) (a1)) 30 (j24) ((k_I σ 1 (i0) (28)).toNatClampNeg) (a2)) 31 (j27) ((k_I σ 1 (i0) (28)).toNatClampNeg) (a3)) 32 (j30) ((k_I σ 1 (i0) (28)).toNatClampNeg) (a4)) 33 (j33) ((k_I σ 1 (i0) (28)).toNatClampNeg) (k_I σ 1 (i0) (14))) 38 (j36) ((k_I σ 1 (i0) (28)).toNatClampNeg) (111)) 40 (j39) ((k_I σ 1 (i0) (28)).toNatClampNeg) (45)) 1 (i0) (28) ((k_I σ 1 (i0) (28) + 1))) (0) _ q58 ?_
              refine r_iload h dX8_file_224 rfl ?_
              cases hoc
              exact r_ireturn h hEn dX8_file_226 rfl rfl rfl (by decide) (by decide)
            · replace hoc := (if_pos c20).symm.trans hoc
              refine r_aload_n h dX8_file_69 rfl ?_
              refine r_iconst (v := 3) h dX8_file_70 (by decide) ?_
              obtain ⟨v59, q60, hoc⟩ := k_ob hoc
              refine r_callV h hMe (rest := []) (as := [k_i (3)]) (oc := .inl (k_mI v59.1, v59.2)) (j_X8_fails la hla G _ (i0) (3) _ q60) kl_X8_103 dX8_file_71 rfl rfl rfl rfl rfl ⟨rfl, rfl, Nat.le_of_ble_eq_true rfl, Nat.le_of_ble_eq_true rfl, Nat.le_of_ble_eq_true rfl, Nat.le_of_ble_eq_true rfl, Nat.le_of_ble_eq_true rfl⟩ (fun E q => by cases q) (fun r s q => ?_)
              cases q
              show k_W X _ _ _ _ _ ([k_i (v59.1)])
              cases hoc
              exact r_ireturn h hEn dX8_file_74 rfl rfl rfl (by decide) (by decide)
          · replace hoc := (if_pos c19).symm.trans hoc
            refine r_aload_n h dX8_file_54 rfl ?_
            refine r_iconst (v := 2) h dX8_file_55 (by decide) ?_
            obtain ⟨v61, q62, hoc⟩ := k_ob hoc
            refine r_callV h hMe (rest := []) (as := [k_i (2)]) (oc := .inl (k_mI v61.1, v61.2)) (j_X8_fails la hla G _ (i0) (2) _ q62) kl_X8_103 dX8_file_56 rfl rfl rfl rfl rfl ⟨rfl, rfl, Nat.le_of_ble_eq_true rfl, Nat.le_of_ble_eq_true rfl, Nat.le_of_ble_eq_true rfl, Nat.le_of_ble_eq_true rfl, Nat.le_of_ble_eq_true rfl⟩ (fun E q => by cases q) (fun r s q => ?_)
            cases q
            show k_W X _ _ _ _ _ ([k_i (v61.1)])
            cases hoc
            exact r_ireturn h hEn dX8_file_59 rfl rfl rfl (by decide) (by decide)
    · replace hoc := (if_pos c8).symm.trans hoc
      refine r_aload_n h dX8_file_21 rfl ?_
      refine r_iconst (v := 1) h dX8_file_22 (by decide) ?_
      obtain ⟨v63, q64, hoc⟩ := k_ob hoc
      refine r_callV h hMe (rest := []) (as := [k_i (1)]) (oc := .inl (k_mI v63.1, v63.2)) (j_X8_fails la hla G _ (i0) (1) _ q64) kl_X8_103 dX8_file_23 rfl rfl rfl rfl rfl ⟨rfl, rfl, Nat.le_of_ble_eq_true rfl, Nat.le_of_ble_eq_true rfl, Nat.le_of_ble_eq_true rfl, Nat.le_of_ble_eq_true rfl, Nat.le_of_ble_eq_true rfl⟩ (fun E q => by cases q) (fun r s q => ?_)
      cases q
      show k_W X _ _ _ _ _ ([k_i (v63.1)])
      cases hoc
      exact r_ireturn h hEn dX8_file_26 rfl rfl rfl (by decide) (by decide)
def f_X8_state (σ : k_S) (i0 : Nat) (a1 : Int32) : Option (Int32 × k_S) :=
  ((f_X8_isReport (k_uI σ 1 (i0) (0) (0)) (i0) (a1)).bind fun v1 => (if v1 = 0 then ((f_X8_fails (k_uI σ 1 (i0) (0) (0)) (i0) (1)).bind fun v4 => (if k_isC ((((v4.1) : Int32).toUInt32 % 65536).toInt32) = true then some (((((v4.1) : Int32).toUInt32 % 65536).toInt32, v4.2)) else none)) else ((k_P σ 1 (i0) (24)).bind fun j7 => (if 0 ≤ a1 ∧ (a1).toNatClampNeg < 20 then (if k_isC (k_I σ 38 (j7) ((a1).toNatClampNeg)) = true then some ((k_I σ 38 (j7) ((a1).toNatClampNeg), (k_uI σ 1 (i0) (0) (0)))) else none) else none))))
theorem j_X8_state (la : Launch) (hla : la.flags = flags0) (G : k_G) (σ : k_S) (i0 : Nat) (a1 : Int32) (x : (Int32 × k_S)) (hoc : f_X8_state σ i0 a1 = some x) : k_Ct la G yX8_state (k_ws yX8_state cX8_state 2 (Option.some ClassFile.FieldType.char)) { frames := 2, cells := 0, slots := 0, locals := 44 } [k_p 1 (i0), k_i (a1)] σ (.inl (k_mI x.1, x.2)) 0 0 := by
  refine k_body hla (by decide +kernel) (k_wl rfl) (Nat.le_of_ble_eq_true rfl) (fun X h hEn hMe => ?_)
  show k_W X σ 0 0 0 [some (k_p 1 (i0)), some (k_i (a1))] []
  unfold f_X8_state at hoc
  refine r_aload_n h dX8_state_0 rfl ?_
  refine r_iconst (v := 0) h dX8_state_1 (by decide) ?_
  refine r_putI (x := 0) h kp_X8_84 dX8_state_2 rfl rfl (by decide) rfl rfl (k_fit_int _) ?_
  refine r_aload_n h dX8_state_5 rfl ?_
  refine r_iload_n h dX8_state_6 rfl ?_
  obtain ⟨v1, q2, hoc⟩ := k_ob hoc
  refine r_callV h hMe (rest := []) (as := [k_i (a1)]) (oc := .inl (k_mI v1, (k_uI σ 1 (i0) (0) (0)))) (j_X8_isReport la hla G _ (i0) (a1) _ q2) kl_X8_124 dX8_state_7 rfl rfl rfl rfl rfl ⟨rfl, rfl, Nat.le_of_ble_eq_true rfl, Nat.le_of_ble_eq_true rfl, Nat.le_of_ble_eq_true rfl, Nat.le_of_ble_eq_true rfl, Nat.le_of_ble_eq_true rfl⟩ (fun E q => by cases q) (fun r s q => ?_)
  cases q
  show k_W X _ _ _ _ _ ([k_i (v1)])
  refine r_if_eq (tgt := 22) h dX8_state_10 (by decide) (fun c3 => ?_) (fun c3 => ?_)
  · replace hoc := (if_pos c3).symm.trans hoc
    refine r_aload_n h dX8_state_22 rfl ?_
    refine r_iconst (v := 1) h dX8_state_23 (by decide) ?_
    obtain ⟨v4, q5, hoc⟩ := k_ob hoc
    refine r_callV h hMe (rest := []) (as := [k_i (1)]) (oc := .inl (k_mI v4.1, v4.2)) (j_X8_fails la hla G _ (i0) (1) _ q5) kl_X8_103 dX8_state_24 rfl rfl rfl rfl rfl ⟨rfl, rfl, Nat.le_of_ble_eq_true rfl, Nat.le_of_ble_eq_true rfl, Nat.le_of_ble_eq_true rfl, Nat.le_of_ble_eq_true rfl, Nat.le_of_ble_eq_true rfl⟩ (fun E q => by cases q) (fun r s q => ?_)
    cases q
    show k_W X _ _ _ _ _ ([k_i (v4.1)])
    refine r_i2c h dX8_state_27 ?_
    obtain ⟨c6, hoc⟩ := k_gd hoc
    cases hoc
    exact r_ireturn h hEn dX8_state_28 rfl (k_nC c6) rfl (by decide) (by decide)
  · replace hoc := (if_neg c3).symm.trans hoc
    refine r_aload_n h dX8_state_13 rfl ?_
    obtain ⟨j7, q8, hoc⟩ := k_ob hoc
    refine r_getR h kf_X8_69 dX8_state_14 rfl rfl (by decide) rfl (Eq.trans rfl q8) ?_
    refine r_iload_n h dX8_state_17 rfl ?_
    obtain ⟨c9, hoc⟩ := k_gd hoc
    refine r_caload (y := (a1).toNatClampNeg) (t := 0) h dX8_state_18 rfl rfl rfl (k_xx c9.1) c9.2 (by decide) ?_
    refine r_eqI (k_I_l (by decide)) ?_
    refine r_goto (tgt := 28) h dX8_state_19 (by decide) ?_
    obtain ⟨c10, hoc⟩ := k_gd hoc
    cases hoc
    exact r_ireturn h hEn dX8_state_28 rfl (k_nC c10) rfl (by decide) (by decide)
def f_X8_weight_l1 (t : Nat) (i0 : Nat) (a1 : Int32) (a2 : Int32) (σ : k_S) (x3 : Int32) (x4 : Int32) : Option (Int32 × Int32) := match t with
  | 0 => none
  | t + 1 => (if k_I σ 1 (i0) (11) ≤ x4 then some ((x3, x4)) else ((k_P σ 1 (i0) (27)).bind fun j2 => (if 0 ≤ a1 ∧ (a1).toNatClampNeg < 20 then ((k_P σ 41 (j2) ((a1).toNatClampNeg)).bind fun j5 => (if 0 ≤ x4 ∧ (x4).toNatClampNeg < 8 then f_X8_weight_l1 t i0 a1 a2 σ ((x3 + (if (0 : Int32) < (a2 * k_I σ 42 (j5) ((x4).toNatClampNeg)) then (a2 * k_I σ 42 (j5) ((x4).toNatClampNeg)) else (0 : Int32)))) ((x4 + 1)) else none)) else none)))
theorem j_X8_weight_l1 (la : Launch) (hla : la.flags = flags0) (G : k_G) (X : k_X) (σ0 σ : k_S) (h : k_Ok X RX8 cX8_weight 5) (hMe : k_Me X la G σ0 { frames := 1, cells := 0, slots := 0, locals := 15 } "weight") (i0 : Nat) (a1 : Int32) (a2 : Int32) : ∀ (t : Nat) (x3 : Int32) (x4 : Int32) (e : (Int32 × Int32)), f_X8_weight_l1 t i0 a1 a2 σ x3 x4 = some e → k_W X σ 0 0 38 [some (k_p 1 (i0)), some (k_i (a1)), some (k_i (a2)), some (k_i (e.1)), some (k_i (e.2))] [] → k_W X σ 0 0 5 [some (k_p 1 (i0)), some (k_i (a1)), some (k_i (a2)), some (k_i (x3)), some (k_i (x4))] [] := by
  intro t
  induction t with
  | zero =>
    intro x3 x4 e hoc kk
    cases hoc
  | succ t ih =>
    intro x3 x4 e hoc kk
    rw [f_X8_weight_l1] at hoc
    refine r_iload h dX8_weight_5 rfl ?_
    refine r_aload_n h dX8_weight_7 rfl ?_
    refine r_getI h kf_X8_94 dX8_weight_8 rfl rfl (by decide) rfl ?_
    refine r_icmp_ge (tgt := 38) h dX8_weight_11 (by decide) (fun c1 => ?_) (fun c1 => ?_)
    · replace hoc := (if_pos c1).symm.trans hoc
      cases hoc
      exact kk
    · replace hoc := (if_neg c1).symm.trans hoc
      refine r_iload_n h dX8_weight_14 rfl ?_
      refine r_iconst (v := 0) h dX8_weight_15 (by decide) ?_
      refine r_iload_n h dX8_weight_16 rfl ?_
      refine r_aload_n h dX8_weight_17 rfl ?_
      obtain ⟨j2, q3, hoc⟩ := k_ob hoc
      refine r_getR h kf_X8_81 dX8_weight_18 rfl rfl (by decide) rfl (Eq.trans rfl q3) ?_
      refine r_iload_n h dX8_weight_21 rfl ?_
      obtain ⟨c4, hoc⟩ := k_gd hoc
      obtain ⟨j5, q6, hoc⟩ := k_ob hoc
      refine r_aaload (y := (a1).toNatClampNeg) (t := 0) h dX8_weight_22 rfl rfl rfl (Eq.trans rfl q6) (k_xx c4.1) c4.2 (by decide) ?_
      refine r_iload h dX8_weight_23 rfl ?_
      obtain ⟨c7, hoc⟩ := k_gd hoc
      refine r_iaload (y := (x4).toNatClampNeg) (t := 0) h dX8_weight_25 rfl rfl rfl (k_xx c7.1) c7.2 (by decide) ?_
      refine r_imul h dX8_weight_26 ?_
      refine r_max h hMe ⟨kl_X8_114.1.1, kl_X8_114.2, kl_X8_114.1.2.1, kl_X8_114.1.2.2.1⟩ dX8_weight_27 ⟨Nat.le_of_ble_eq_true rfl, Nat.le_of_ble_eq_true rfl, Nat.le_of_ble_eq_true rfl, Nat.le_of_ble_eq_true rfl⟩ ?_
      refine r_iadd h dX8_weight_30 ?_
      refine r_istore_n (L' := [some (k_p 1 (i0)), some (k_i (a1)), some (k_i (a2)), some (k_i ((x3 + (if (0 : Int32) < (a2 * k_I σ 42 (j5) ((x4).toNatClampNeg)) then (a2 * k_I σ 42 (j5) ((x4).toNatClampNeg)) else (0 : Int32))))), some (k_i (x4))]) h dX8_weight_31 (by decide) rfl ?_
      refine r_iinc (v := (x4 + 1)) (L' := [some (k_p 1 (i0)), some (k_i (a1)), some (k_i (a2)), some (k_i ((x3 + (if (0 : Int32) < (a2 * k_I σ 42 (j5) ((x4).toNatClampNeg)) then (a2 * k_I σ 42 (j5) ((x4).toNatClampNeg)) else (0 : Int32))))), some (k_i ((x4 + 1)))]) h dX8_weight_32 rfl rfl (by decide) rfl ?_
      refine r_goto (tgt := 5) h dX8_weight_35 (by decide) ?_
      exact r_forget (L' := [some (k_p 1 (i0)), some (k_i (a1)), some (k_i (a2)), some (k_i ((x3 + (if (0 : Int32) < (a2 * k_I σ 42 (j5) ((x4).toNatClampNeg)) then (a2 * k_I σ 42 (j5) ((x4).toNatClampNeg)) else (0 : Int32))))), some (k_i ((x4 + 1)))]) (k_le_ok ⟨rfl, ⟨rfl, ⟨rfl, ⟨rfl, ⟨rfl, trivial⟩⟩⟩⟩⟩) (ih ((x3 + (if (0 : Int32) < (a2 * k_I σ 42 (j5) ((x4).toNatClampNeg)) then (a2 * k_I σ 42 (j5) ((x4).toNatClampNeg)) else (0 : Int32)))) ((x4 + 1)) _ hoc kk)
def f_X8_weight (σ : k_S) (i0 : Nat) (a1 : Int32) (a2 : Int32) : Option Int32 :=
  ((f_X8_weight_l1 200 i0 a1 a2 σ (0) (0)).bind fun v8 => some (v8.1))
theorem j_X8_weight (la : Launch) (hla : la.flags = flags0) (G : k_G) (σ : k_S) (i0 : Nat) (a1 : Int32) (a2 : Int32) (x : Int32) (hoc : f_X8_weight σ i0 a1 a2 = some x) : k_Ct la G yX8_weight (k_ws yX8_weight cX8_weight 5 (Option.some ClassFile.FieldType.int)) { frames := 1, cells := 0, slots := 0, locals := 15 } [k_p 1 (i0), k_i (a1), k_i (a2)] σ (.inl (k_mI x, σ)) 0 0 := by
  refine k_body hla (by decide +kernel) (k_wl rfl) (Nat.le_of_ble_eq_true rfl) (fun X h hEn hMe => ?_)
  show k_W X σ 0 0 0 [some (k_p 1 (i0)), some (k_i (a1)), some (k_i (a2)), none, none] []
  unfold f_X8_weight at hoc
  refine r_iconst (v := 0) h dX8_weight_0 (by decide) ?_
  refine r_istore_n (L' := [some (k_p 1 (i0)), some (k_i (a1)), some (k_i (a2)), some (k_i (0)), none]) h dX8_weight_1 (by decide) rfl ?_
  refine r_iconst (v := 0) h dX8_weight_2 (by decide) ?_
  refine r_istore (L' := [some (k_p 1 (i0)), some (k_i (a1)), some (k_i (a2)), some (k_i (0)), some (k_i (0))]) h dX8_weight_3 (by decide) rfl ?_
  obtain ⟨v8, q9, hoc⟩ := k_ob hoc
  refine j_X8_weight_l1 la hla G X σ σ h hMe i0 a1 a2 200 (0) (0) _ q9 ?_
  refine r_iload_n h dX8_weight_38 rfl ?_
  cases hoc
  exact r_ireturn h hEn dX8_weight_39 rfl rfl rfl (by decide) (by decide)
