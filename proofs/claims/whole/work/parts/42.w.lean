/-! ===== walks 12 (written by wip/whole/gen_walk.py, emit_walk.py) ===== -/
def f_X8_like (σ : k_S) (i0 : Nat) (a1 : Int32) (a2 : Int32) : Option Int32 :=
  ((k_P σ 1 (i0) (17)).bind fun j1 => (if 0 ≤ a1 ∧ (a1).toNatClampNeg < 20 then (if 0 ≤ a2 ∧ (a2).toNatClampNeg < 20 then ((f_J6_bitCount_0f7a4 σ ((k_I σ 31 (j1) ((a1).toNatClampNeg) &&& k_I σ 31 (j1) ((a2).toNatClampNeg)))).bind fun v5 => some (v5)) else none) else none))
theorem j_X8_like (la : Launch) (hla : la.flags = flags0) (G : k_G) (σ : k_S) (i0 : Nat) (a1 : Int32) (a2 : Int32) (x : Int32) (hoc : f_X8_like σ i0 a1 a2 = some x) : k_Ct la G yX8_like (k_ws yX8_like cX8_like 3 (Option.some ClassFile.FieldType.int)) { frames := 1, cells := 0, slots := 0, locals := 21 } [k_p 1 (i0), k_i (a1), k_i (a2)] σ (.inl (k_mI x, σ)) 0 0 := by
  refine k_body hla (by decide +kernel) (k_wl rfl) (Nat.le_of_ble_eq_true rfl) (fun X h hEn hMe => ?_)
  show k_W X σ 0 0 0 [some (k_p 1 (i0)), some (k_i (a1)), some (k_i (a2))] []
  unfold f_X8_like at hoc
  refine r_aload_n h dX8_like_0 rfl ?_
  obtain ⟨j1, q2, hoc⟩ := k_ob hoc
  refine r_getR h kf_X8_48 dX8_like_1 rfl rfl (by decide) rfl (Eq.trans rfl q2) ?_
  refine r_iload_n h dX8_like_4 rfl ?_
  obtain ⟨c3, hoc⟩ := k_gd hoc
  refine r_iaload (y := (a1).toNatClampNeg) (t := 0) h dX8_like_5 rfl rfl rfl (k_xx c3.1) c3.2 (by decide) ?_
  refine r_aload_n h dX8_like_6 rfl ?_
  refine r_getR h kf_X8_48 dX8_like_7 rfl rfl (by decide) rfl (Eq.trans rfl q2) ?_
  refine r_iload_n h dX8_like_10 rfl ?_
  obtain ⟨c4, hoc⟩ := k_gd hoc
  refine r_iaload (y := (a2).toNatClampNeg) (t := 0) h dX8_like_11 rfl rfl rfl (k_xx c4.1) c4.2 (by decide) ?_
  refine r_iand h dX8_like_12 ?_
  obtain ⟨v5, q6, hoc⟩ := k_ob hoc
  refine r_callS h hMe (rest := []) (as := [k_i ((k_I σ 31 (j1) ((a1).toNatClampNeg) &&& k_I σ 31 (j1) ((a2).toNatClampNeg)))]) (oc := .inl (k_mI v5, σ)) (j_J6_bitCount_0f7a4 la hla G _ ((k_I σ 31 (j1) ((a1).toNatClampNeg) &&& k_I σ 31 (j1) ((a2).toNatClampNeg))) _ q6) kl_X8_146 dX8_like_13 rfl rfl  ⟨rfl, rfl, Nat.le_of_ble_eq_true rfl, Nat.le_of_ble_eq_true rfl, Nat.le_of_ble_eq_true rfl, Nat.le_of_ble_eq_true rfl, Nat.le_of_ble_eq_true rfl⟩ (fun E q => by cases q) (fun r s q => ?_)
  cases q
  show k_W X _ _ _ _ _ ([k_i (v5)])
  cases hoc
  exact r_ireturn h hEn dX8_like_16 rfl rfl rfl (by decide) (by decide)
def f_X8_precedentOf_l1 (t : Nat) (i0 : Nat) (a1 : Int32) (σ : k_S) (x2 : Int32) (x3 : Int32) : Option (Int32 × Int32) := match t with
  | 0 => none
  | t + 1 => (if k_I σ 1 (i0) (28) ≤ x3 then some ((x2, x3)) else (if x3 = a1 then f_X8_precedentOf_l1 t i0 a1 σ (x2) ((x3 + 1)) else ((f_X8_stands σ (i0) (x3) (103)).bind fun v3 => (if v3 = 0 then ((f_X8_stands σ (i0) (x3) (105)).bind fun v25 => (if v25 = 0 then f_X8_precedentOf_l1 t i0 a1 σ (x2) ((x3 + 1)) else ((f_X8_like σ (i0) (a1) (x3)).bind fun v28 => (if (2 : Int32) ≤ v28 then (if x2 < 0 then f_X8_precedentOf_l1 t i0 a1 σ (x3) ((x3 + 1)) else ((f_X8_like σ (i0) (a1) (x3)).bind fun v32 => ((f_X8_like σ (i0) (a1) (x2)).bind fun v34 => (if v34 < v32 then f_X8_precedentOf_l1 t i0 a1 σ (x3) ((x3 + 1)) else ((f_X8_like σ (i0) (a1) (x3)).bind fun v37 => ((f_X8_like σ (i0) (a1) (x2)).bind fun v39 => (if v37 = v39 then ((k_P σ 1 (i0) (20)).bind fun j42 => (if 0 ≤ x3 ∧ (x3).toNatClampNeg < 20 then (if 0 ≤ x2 ∧ (x2).toNatClampNeg < 20 then (if k_I σ 34 (j42) ((x3).toNatClampNeg) ≤ k_I σ 34 (j42) ((x2).toNatClampNeg) then f_X8_precedentOf_l1 t i0 a1 σ (x2) ((x3 + 1)) else f_X8_precedentOf_l1 t i0 a1 σ (x3) ((x3 + 1))) else none) else none)) else f_X8_precedentOf_l1 t i0 a1 σ (x2) ((x3 + 1))))))))) else f_X8_precedentOf_l1 t i0 a1 σ (x2) ((x3 + 1)))))) else ((f_X8_like σ (i0) (a1) (x3)).bind fun v6 => (if (2 : Int32) ≤ v6 then (if x2 < 0 then f_X8_precedentOf_l1 t i0 a1 σ (x3) ((x3 + 1)) else ((f_X8_like σ (i0) (a1) (x3)).bind fun v10 => ((f_X8_like σ (i0) (a1) (x2)).bind fun v12 => (if v12 < v10 then f_X8_precedentOf_l1 t i0 a1 σ (x3) ((x3 + 1)) else ((f_X8_like σ (i0) (a1) (x3)).bind fun v15 => ((f_X8_like σ (i0) (a1) (x2)).bind fun v17 => (if v15 = v17 then ((k_P σ 1 (i0) (20)).bind fun j20 => (if 0 ≤ x3 ∧ (x3).toNatClampNeg < 20 then (if 0 ≤ x2 ∧ (x2).toNatClampNeg < 20 then (if k_I σ 34 (j20) ((x3).toNatClampNeg) ≤ k_I σ 34 (j20) ((x2).toNatClampNeg) then f_X8_precedentOf_l1 t i0 a1 σ (x2) ((x3 + 1)) else f_X8_precedentOf_l1 t i0 a1 σ (x3) ((x3 + 1))) else none) else none)) else f_X8_precedentOf_l1 t i0 a1 σ (x2) ((x3 + 1))))))))) else f_X8_precedentOf_l1 t i0 a1 σ (x2) ((x3 + 1))))))))
theorem j_X8_precedentOf_l1 (la : Launch) (hla : la.flags = flags0) (G : k_G) (X : k_X) (σ0 σ : k_S) (h : k_Ok X RX8 cX8_precedentOf 4) (hMe : k_Me X la G σ0 { frames := 2, cells := 0, slots := 0, locals := 43 } "precedentOf") (i0 : Nat) (a1 : Int32) : ∀ (t : Nat) (x2 : Int32) (x3 : Int32) (e : (Int32 × Int32)), f_X8_precedentOf_l1 t i0 a1 σ x2 x3 = some e → k_W X σ 0 0 107 [some (k_p 1 (i0)), some (k_i (a1)), some (k_i (e.1)), some (k_i (e.2))] [] → k_W X σ 0 0 4 [some (k_p 1 (i0)), some (k_i (a1)), some (k_i (x2)), some (k_i (x3))] [] := by
  intro t
  induction t with
  | zero =>
    intro x2 x3 e hoc kk
    cases hoc
  | succ t ih =>
    intro x2 x3 e hoc kk
    rw [f_X8_precedentOf_l1] at hoc
    refine r_iload_n h dX8_precedentOf_4 rfl ?_
    refine r_aload_n h dX8_precedentOf_5 rfl ?_
    refine r_getI h kf_X8_97 dX8_precedentOf_6 rfl rfl (by decide) rfl ?_
    refine r_icmp_ge (tgt := 107) h dX8_precedentOf_9 (by decide) (fun c1 => ?_) (fun c1 => ?_)
    · replace hoc := (if_pos c1).symm.trans hoc
      cases hoc
      exact kk
    · replace hoc := (if_neg c1).symm.trans hoc
      refine r_iload_n h dX8_precedentOf_12 rfl ?_
      refine r_iload_n h dX8_precedentOf_13 rfl ?_
      refine r_icmp_eq (tgt := 101) h dX8_precedentOf_14 (by decide) (fun c2 => ?_) (fun c2 => ?_)
      · replace hoc := (if_pos c2).symm.trans hoc
        refine r_iinc (v := (x3 + 1)) (L' := [some (k_p 1 (i0)), some (k_i (a1)), some (k_i (x2)), some (k_i ((x3 + 1)))]) h dX8_precedentOf_101 rfl rfl (by decide) rfl ?_
        refine r_goto (tgt := 4) h dX8_precedentOf_104 (by decide) ?_
        exact r_forget (L' := [some (k_p 1 (i0)), some (k_i (a1)), some (k_i (x2)), some (k_i ((x3 + 1)))]) (k_le_ok ⟨rfl, ⟨rfl, ⟨rfl, ⟨rfl, trivial⟩⟩⟩⟩) (ih (x2) ((x3 + 1)) _ hoc kk)
      · replace hoc := (if_neg c2).symm.trans hoc
        refine r_aload_n h dX8_precedentOf_17 rfl ?_
        refine r_iload_n h dX8_precedentOf_18 rfl ?_
        refine r_bipush (v := 103) h dX8_precedentOf_19 (by decide) ?_
        obtain ⟨v3, q4, hoc⟩ := k_ob hoc
        refine r_callV h hMe (rest := []) (as := [k_i (x3), k_i (103)]) (oc := .inl (k_mI v3, σ)) (j_X8_stands la hla G _ (i0) (x3) (103) _ q4) kl_X8_133 dX8_precedentOf_21 rfl rfl rfl rfl rfl ⟨rfl, rfl, Nat.le_of_ble_eq_true rfl, Nat.le_of_ble_eq_true rfl, Nat.le_of_ble_eq_true rfl, Nat.le_of_ble_eq_true rfl, Nat.le_of_ble_eq_true rfl⟩ (fun E q => by cases q) (fun r s q => ?_)
        cases q
        show k_W X _ _ _ _ _ ([k_i (v3)])
        refine r_if_ne (tgt := 37) h dX8_precedentOf_24 (by decide) (fun c5 => ?_) (fun c5 => ?_)
        · replace hoc := (if_neg c5).symm.trans hoc
          refine r_aload_n h dX8_precedentOf_37 rfl ?_
          refine r_iload_n h dX8_precedentOf_38 rfl ?_
          refine r_iload_n h dX8_precedentOf_39 rfl ?_
          obtain ⟨v6, q7, hoc⟩ := k_ob hoc
          refine r_callV h hMe (rest := []) (as := [k_i (a1), k_i (x3)]) (oc := .inl (k_mI v6, σ)) (j_X8_like la hla G _ (i0) (a1) (x3) _ q7) kl_X8_149 dX8_precedentOf_40 rfl rfl rfl rfl rfl ⟨rfl, rfl, Nat.le_of_ble_eq_true rfl, Nat.le_of_ble_eq_true rfl, Nat.le_of_ble_eq_true rfl, Nat.le_of_ble_eq_true rfl, Nat.le_of_ble_eq_true rfl⟩ (fun E q => by cases q) (fun r s q => ?_)
          cases q
          show k_W X _ _ _ _ _ ([k_i (v6)])
          refine r_iconst (v := 2) h dX8_precedentOf_43 (by decide) ?_
          refine r_icmp_ge (tgt := 50) h dX8_precedentOf_44 (by decide) (fun c8 => ?_) (fun c8 => ?_)
          · replace hoc := (if_pos c8).symm.trans hoc
            refine r_iload_n h dX8_precedentOf_50 rfl ?_
            refine r_if_lt (tgt := 99) h dX8_precedentOf_51 (by decide) (fun c9 => ?_) (fun c9 => ?_)
            · replace hoc := (if_pos c9).symm.trans hoc
              refine r_iload_n h dX8_precedentOf_99 rfl ?_
              refine r_istore_n (L' := [some (k_p 1 (i0)), some (k_i (a1)), some (k_i (x3)), some (k_i (x3))]) h dX8_precedentOf_100 (by decide) rfl ?_
              refine r_iinc (v := (x3 + 1)) (L' := [some (k_p 1 (i0)), some (k_i (a1)), some (k_i (x3)), some (k_i ((x3 + 1)))]) h dX8_precedentOf_101 rfl rfl (by decide) rfl ?_
              refine r_goto (tgt := 4) h dX8_precedentOf_104 (by decide) ?_
              exact r_forget (L' := [some (k_p 1 (i0)), some (k_i (a1)), some (k_i (x3)), some (k_i ((x3 + 1)))]) (k_le_ok ⟨rfl, ⟨rfl, ⟨rfl, ⟨rfl, trivial⟩⟩⟩⟩) (ih (x3) ((x3 + 1)) _ hoc kk)
            · replace hoc := (if_neg c9).symm.trans hoc
              refine r_aload_n h dX8_precedentOf_54 rfl ?_
              refine r_iload_n h dX8_precedentOf_55 rfl ?_
              refine r_iload_n h dX8_precedentOf_56 rfl ?_
              obtain ⟨v10, q11, hoc⟩ := k_ob hoc
              refine r_callV h hMe (rest := []) (as := [k_i (a1), k_i (x3)]) (oc := .inl (k_mI v10, σ)) (j_X8_like la hla G _ (i0) (a1) (x3) _ q11) kl_X8_149 dX8_precedentOf_57 rfl rfl rfl rfl rfl ⟨rfl, rfl, Nat.le_of_ble_eq_true rfl, Nat.le_of_ble_eq_true rfl, Nat.le_of_ble_eq_true rfl, Nat.le_of_ble_eq_true rfl, Nat.le_of_ble_eq_true rfl⟩ (fun E q => by cases q) (fun r s q => ?_)
              cases q
              show k_W X _ _ _ _ _ ([k_i (v10)])
              refine r_aload_n h dX8_precedentOf_60 rfl ?_
              refine r_iload_n h dX8_precedentOf_61 rfl ?_
              refine r_iload_n h dX8_precedentOf_62 rfl ?_
              obtain ⟨v12, q13, hoc⟩ := k_ob hoc
              refine r_callV h hMe (rest := [k_i (v10)]) (as := [k_i (a1), k_i (x2)]) (oc := .inl (k_mI v12, σ)) (j_X8_like la hla G _ (i0) (a1) (x2) _ q13) kl_X8_149 dX8_precedentOf_63 rfl rfl rfl rfl rfl ⟨rfl, rfl, Nat.le_of_ble_eq_true rfl, Nat.le_of_ble_eq_true rfl, Nat.le_of_ble_eq_true rfl, Nat.le_of_ble_eq_true rfl, Nat.le_of_ble_eq_true rfl⟩ (fun E q => by cases q) (fun r s q => ?_)
              cases q
              show k_W X _ _ _ _ _ ([k_i (v12), k_i (v10)])
              refine r_icmp_gt (tgt := 99) h dX8_precedentOf_66 (by decide) (fun c14 => ?_) (fun c14 => ?_)
              · replace hoc := (if_pos c14).symm.trans hoc
                refine r_iload_n h dX8_precedentOf_99 rfl ?_
                refine r_istore_n (L' := [some (k_p 1 (i0)), some (k_i (a1)), some (k_i (x3)), some (k_i (x3))]) h dX8_precedentOf_100 (by decide) rfl ?_
                refine r_iinc (v := (x3 + 1)) (L' := [some (k_p 1 (i0)), some (k_i (a1)), some (k_i (x3)), some (k_i ((x3 + 1)))]) h dX8_precedentOf_101 rfl rfl (by decide) rfl ?_
                refine r_goto (tgt := 4) h dX8_precedentOf_104 (by decide) ?_
                exact r_forget (L' := [some (k_p 1 (i0)), some (k_i (a1)), some (k_i (x3)), some (k_i ((x3 + 1)))]) (k_le_ok ⟨rfl, ⟨rfl, ⟨rfl, ⟨rfl, trivial⟩⟩⟩⟩) (ih (x3) ((x3 + 1)) _ hoc kk)
              · replace hoc := (if_neg c14).symm.trans hoc
                refine r_aload_n h dX8_precedentOf_69 rfl ?_
                refine r_iload_n h dX8_precedentOf_70 rfl ?_
                refine r_iload_n h dX8_precedentOf_71 rfl ?_
                obtain ⟨v15, q16, hoc⟩ := k_ob hoc
                refine r_callV h hMe (rest := []) (as := [k_i (a1), k_i (x3)]) (oc := .inl (k_mI v15, σ)) (j_X8_like la hla G _ (i0) (a1) (x3) _ q16) kl_X8_149 dX8_precedentOf_72 rfl rfl rfl rfl rfl ⟨rfl, rfl, Nat.le_of_ble_eq_true rfl, Nat.le_of_ble_eq_true rfl, Nat.le_of_ble_eq_true rfl, Nat.le_of_ble_eq_true rfl, Nat.le_of_ble_eq_true rfl⟩ (fun E q => by cases q) (fun r s q => ?_)
                cases q
                show k_W X _ _ _ _ _ ([k_i (v15)])
                refine r_aload_n h dX8_precedentOf_75 rfl ?_
                refine r_iload_n h dX8_precedentOf_76 rfl ?_
                refine r_iload_n h dX8_precedentOf_77 rfl ?_
                obtain ⟨v17, q18, hoc⟩ := k_ob hoc
                refine r_callV h hMe (rest := [k_i (v15)]) (as := [k_i (a1), k_i (x2)]) (oc := .inl (k_mI v17, σ)) (j_X8_like la hla G _ (i0) (a1) (x2) _ q18) kl_X8_149 dX8_precedentOf_78 rfl rfl rfl rfl rfl ⟨rfl, rfl, Nat.le_of_ble_eq_true rfl, Nat.le_of_ble_eq_true rfl, Nat.le_of_ble_eq_true rfl, Nat.le_of_ble_eq_true rfl, Nat.le_of_ble_eq_true rfl⟩ (fun E q => by cases q) (fun r s q => ?_)
                cases q
                show k_W X _ _ _ _ _ ([k_i (v17), k_i (v15)])
                refine r_icmp_ne (tgt := 101) h dX8_precedentOf_81 (by decide) (fun c19 => ?_) (fun c19 => ?_)
                · replace hoc := (if_neg c19).symm.trans hoc
                  refine r_iinc (v := (x3 + 1)) (L' := [some (k_p 1 (i0)), some (k_i (a1)), some (k_i (x2)), some (k_i ((x3 + 1)))]) h dX8_precedentOf_101 rfl rfl (by decide) rfl ?_
                  refine r_goto (tgt := 4) h dX8_precedentOf_104 (by decide) ?_
                  exact r_forget (L' := [some (k_p 1 (i0)), some (k_i (a1)), some (k_i (x2)), some (k_i ((x3 + 1)))]) (k_le_ok ⟨rfl, ⟨rfl, ⟨rfl, ⟨rfl, trivial⟩⟩⟩⟩) (ih (x2) ((x3 + 1)) _ hoc kk)
                · replace hoc := (if_pos c19).symm.trans hoc
                  refine r_aload_n h dX8_precedentOf_84 rfl ?_
                  obtain ⟨j20, q21, hoc⟩ := k_ob hoc
                  refine r_getR h kf_X8_57 dX8_precedentOf_85 rfl rfl (by decide) rfl (Eq.trans rfl q21) ?_
                  refine r_iload_n h dX8_precedentOf_88 rfl ?_
                  obtain ⟨c22, hoc⟩ := k_gd hoc
                  refine r_iaload (y := (x3).toNatClampNeg) (t := 0) h dX8_precedentOf_89 rfl rfl rfl (k_xx c22.1) c22.2 (by decide) ?_
                  refine r_aload_n h dX8_precedentOf_90 rfl ?_
                  refine r_getR h kf_X8_57 dX8_precedentOf_91 rfl rfl (by decide) rfl (Eq.trans rfl q21) ?_
                  refine r_iload_n h dX8_precedentOf_94 rfl ?_
                  obtain ⟨c23, hoc⟩ := k_gd hoc
                  refine r_iaload (y := (x2).toNatClampNeg) (t := 0) h dX8_precedentOf_95 rfl rfl rfl (k_xx c23.1) c23.2 (by decide) ?_
                  refine r_icmp_le (tgt := 101) h dX8_precedentOf_96 (by decide) (fun c24 => ?_) (fun c24 => ?_)
                  · replace hoc := (if_pos c24).symm.trans hoc
                    refine r_iinc (v := (x3 + 1)) (L' := [some (k_p 1 (i0)), some (k_i (a1)), some (k_i (x2)), some (k_i ((x3 + 1)))]) h dX8_precedentOf_101 rfl rfl (by decide) rfl ?_
                    refine r_goto (tgt := 4) h dX8_precedentOf_104 (by decide) ?_
                    exact r_forget (L' := [some (k_p 1 (i0)), some (k_i (a1)), some (k_i (x2)), some (k_i ((x3 + 1)))]) (k_le_ok ⟨rfl, ⟨rfl, ⟨rfl, ⟨rfl, trivial⟩⟩⟩⟩) (ih (x2) ((x3 + 1)) _ hoc kk)
                  · replace hoc := (if_neg c24).symm.trans hoc
                    refine r_iload_n h dX8_precedentOf_99 rfl ?_
                    refine r_istore_n (L' := [some (k_p 1 (i0)), some (k_i (a1)), some (k_i (x3)), some (k_i (x3))]) h dX8_precedentOf_100 (by decide) rfl ?_
                    refine r_iinc (v := (x3 + 1)) (L' := [some (k_p 1 (i0)), some (k_i (a1)), some (k_i (x3)), some (k_i ((x3 + 1)))]) h dX8_precedentOf_101 rfl rfl (by decide) rfl ?_
                    refine r_goto (tgt := 4) h dX8_precedentOf_104 (by decide) ?_
                    exact r_forget (L' := [some (k_p 1 (i0)), some (k_i (a1)), some (k_i (x3)), some (k_i ((x3 + 1)))]) (k_le_ok ⟨rfl, ⟨rfl, ⟨rfl, ⟨rfl, trivial⟩⟩⟩⟩) (ih (x3) ((x3 + 1)) _ hoc kk)
          · replace hoc := (if_neg c8).symm.trans hoc
            refine r_goto (tgt := 101) h dX8_precedentOf_47 (by decide) ?_
            refine r_iinc (v := (x3 + 1)) (L' := [some (k_p 1 (i0)), some (k_i (a1)), some (k_i (x2)), some (k_i ((x3 + 1)))]) h dX8_precedentOf_101 rfl rfl (by decide) rfl ?_
            refine r_goto (tgt := 4) h dX8_precedentOf_104 (by decide) ?_
            exact r_forget (L' := [some (k_p 1 (i0)), some (k_i (a1)), some (k_i (x2)), some (k_i ((x3 + 1)))]) (k_le_ok ⟨rfl, ⟨rfl, ⟨rfl, ⟨rfl, trivial⟩⟩⟩⟩) (ih (x2) ((x3 + 1)) _ hoc kk)
        · replace hoc := (if_pos c5).symm.trans hoc
          refine r_aload_n h dX8_precedentOf_27 rfl ?_
          refine r_iload_n h dX8_precedentOf_28 rfl ?_
          refine r_bipush (v := 105) h dX8_precedentOf_29 (by decide) ?_
          obtain ⟨v25, q26, hoc⟩ := k_ob hoc
          refine r_callV h hMe (rest := []) (as := [k_i (x3), k_i (105)]) (oc := .inl (k_mI v25, σ)) (j_X8_stands la hla G _ (i0) (x3) (105) _ q26) kl_X8_133 dX8_precedentOf_31 rfl rfl rfl rfl rfl ⟨rfl, rfl, Nat.le_of_ble_eq_true rfl, Nat.le_of_ble_eq_true rfl, Nat.le_of_ble_eq_true rfl, Nat.le_of_ble_eq_true rfl, Nat.le_of_ble_eq_true rfl⟩ (fun E q => by cases q) (fun r s q => ?_)
          cases q
          show k_W X _ _ _ _ _ ([k_i (v25)])
          refine r_if_eq (tgt := 101) h dX8_precedentOf_34 (by decide) (fun c27 => ?_) (fun c27 => ?_)
          · replace hoc := (if_pos c27).symm.trans hoc
            refine r_iinc (v := (x3 + 1)) (L' := [some (k_p 1 (i0)), some (k_i (a1)), some (k_i (x2)), some (k_i ((x3 + 1)))]) h dX8_precedentOf_101 rfl rfl (by decide) rfl ?_
            refine r_goto (tgt := 4) h dX8_precedentOf_104 (by decide) ?_
            exact r_forget (L' := [some (k_p 1 (i0)), some (k_i (a1)), some (k_i (x2)), some (k_i ((x3 + 1)))]) (k_le_ok ⟨rfl, ⟨rfl, ⟨rfl, ⟨rfl, trivial⟩⟩⟩⟩) (ih (x2) ((x3 + 1)) _ hoc kk)
          · replace hoc := (if_neg c27).symm.trans hoc
            refine r_aload_n h dX8_precedentOf_37 rfl ?_
            refine r_iload_n h dX8_precedentOf_38 rfl ?_
            refine r_iload_n h dX8_precedentOf_39 rfl ?_
            obtain ⟨v28, q29, hoc⟩ := k_ob hoc
            refine r_callV h hMe (rest := []) (as := [k_i (a1), k_i (x3)]) (oc := .inl (k_mI v28, σ)) (j_X8_like la hla G _ (i0) (a1) (x3) _ q29) kl_X8_149 dX8_precedentOf_40 rfl rfl rfl rfl rfl ⟨rfl, rfl, Nat.le_of_ble_eq_true rfl, Nat.le_of_ble_eq_true rfl, Nat.le_of_ble_eq_true rfl, Nat.le_of_ble_eq_true rfl, Nat.le_of_ble_eq_true rfl⟩ (fun E q => by cases q) (fun r s q => ?_)
            cases q
            show k_W X _ _ _ _ _ ([k_i (v28)])
            refine r_iconst (v := 2) h dX8_precedentOf_43 (by decide) ?_
            refine r_icmp_ge (tgt := 50) h dX8_precedentOf_44 (by decide) (fun c30 => ?_) (fun c30 => ?_)
            · replace hoc := (if_pos c30).symm.trans hoc
              refine r_iload_n h dX8_precedentOf_50 rfl ?_
              refine r_if_lt (tgt := 99) h dX8_precedentOf_51 (by decide) (fun c31 => ?_) (fun c31 => ?_)
              · replace hoc := (if_pos c31).symm.trans hoc
                refine r_iload_n h dX8_precedentOf_99 rfl ?_
                refine r_istore_n (L' := [some (k_p 1 (i0)), some (k_i (a1)), some (k_i (x3)), some (k_i (x3))]) h dX8_precedentOf_100 (by decide) rfl ?_
                refine r_iinc (v := (x3 + 1)) (L' := [some (k_p 1 (i0)), some (k_i (a1)), some (k_i (x3)), some (k_i ((x3 + 1)))]) h dX8_precedentOf_101 rfl rfl (by decide) rfl ?_
                refine r_goto (tgt := 4) h dX8_precedentOf_104 (by decide) ?_
                exact r_forget (L' := [some (k_p 1 (i0)), some (k_i (a1)), some (k_i (x3)), some (k_i ((x3 + 1)))]) (k_le_ok ⟨rfl, ⟨rfl, ⟨rfl, ⟨rfl, trivial⟩⟩⟩⟩) (ih (x3) ((x3 + 1)) _ hoc kk)
              · replace hoc := (if_neg c31).symm.trans hoc
                refine r_aload_n h dX8_precedentOf_54 rfl ?_
                refine r_iload_n h dX8_precedentOf_55 rfl ?_
                refine r_iload_n h dX8_precedentOf_56 rfl ?_
                obtain ⟨v32, q33, hoc⟩ := k_ob hoc
                refine r_callV h hMe (rest := []) (as := [k_i (a1), k_i (x3)]) (oc := .inl (k_mI v32, σ)) (j_X8_like la hla G _ (i0) (a1) (x3) _ q33) kl_X8_149 dX8_precedentOf_57 rfl rfl rfl rfl rfl ⟨rfl, rfl, Nat.le_of_ble_eq_true rfl, Nat.le_of_ble_eq_true rfl, Nat.le_of_ble_eq_true rfl, Nat.le_of_ble_eq_true rfl, Nat.le_of_ble_eq_true rfl⟩ (fun E q => by cases q) (fun r s q => ?_)
                cases q
                show k_W X _ _ _ _ _ ([k_i (v32)])
                refine r_aload_n h dX8_precedentOf_60 rfl ?_
                refine r_iload_n h dX8_precedentOf_61 rfl ?_
                refine r_iload_n h dX8_precedentOf_62 rfl ?_
                obtain ⟨v34, q35, hoc⟩ := k_ob hoc
                refine r_callV h hMe (rest := [k_i (v32)]) (as := [k_i (a1), k_i (x2)]) (oc := .inl (k_mI v34, σ)) (j_X8_like la hla G _ (i0) (a1) (x2) _ q35) kl_X8_149 dX8_precedentOf_63 rfl rfl rfl rfl rfl ⟨rfl, rfl, Nat.le_of_ble_eq_true rfl, Nat.le_of_ble_eq_true rfl, Nat.le_of_ble_eq_true rfl, Nat.le_of_ble_eq_true rfl, Nat.le_of_ble_eq_true rfl⟩ (fun E q => by cases q) (fun r s q => ?_)
                cases q
                show k_W X _ _ _ _ _ ([k_i (v34), k_i (v32)])
                refine r_icmp_gt (tgt := 99) h dX8_precedentOf_66 (by decide) (fun c36 => ?_) (fun c36 => ?_)
                · replace hoc := (if_pos c36).symm.trans hoc
                  refine r_iload_n h dX8_precedentOf_99 rfl ?_
                  refine r_istore_n (L' := [some (k_p 1 (i0)), some (k_i (a1)), some (k_i (x3)), some (k_i (x3))]) h dX8_precedentOf_100 (by decide) rfl ?_
                  refine r_iinc (v := (x3 + 1)) (L' := [some (k_p 1 (i0)), some (k_i (a1)), some (k_i (x3)), some (k_i ((x3 + 1)))]) h dX8_precedentOf_101 rfl rfl (by decide) rfl ?_
                  refine r_goto (tgt := 4) h dX8_precedentOf_104 (by decide) ?_
                  exact r_forget (L' := [some (k_p 1 (i0)), some (k_i (a1)), some (k_i (x3)), some (k_i ((x3 + 1)))]) (k_le_ok ⟨rfl, ⟨rfl, ⟨rfl, ⟨rfl, trivial⟩⟩⟩⟩) (ih (x3) ((x3 + 1)) _ hoc kk)
                · replace hoc := (if_neg c36).symm.trans hoc
                  refine r_aload_n h dX8_precedentOf_69 rfl ?_
                  refine r_iload_n h dX8_precedentOf_70 rfl ?_
                  refine r_iload_n h dX8_precedentOf_71 rfl ?_
                  obtain ⟨v37, q38, hoc⟩ := k_ob hoc
                  refine r_callV h hMe (rest := []) (as := [k_i (a1), k_i (x3)]) (oc := .inl (k_mI v37, σ)) (j_X8_like la hla G _ (i0) (a1) (x3) _ q38) kl_X8_149 dX8_precedentOf_72 rfl rfl rfl rfl rfl ⟨rfl, rfl, Nat.le_of_ble_eq_true rfl, Nat.le_of_ble_eq_true rfl, Nat.le_of_ble_eq_true rfl, Nat.le_of_ble_eq_true rfl, Nat.le_of_ble_eq_true rfl⟩ (fun E q => by cases q) (fun r s q => ?_)
                  cases q
                  show k_W X _ _ _ _ _ ([k_i (v37)])
                  refine r_aload_n h dX8_precedentOf_75 rfl ?_
                  refine r_iload_n h dX8_precedentOf_76 rfl ?_
                  refine r_iload_n h dX8_precedentOf_77 rfl ?_
                  obtain ⟨v39, q40, hoc⟩ := k_ob hoc
                  refine r_callV h hMe (rest := [k_i (v37)]) (as := [k_i (a1), k_i (x2)]) (oc := .inl (k_mI v39, σ)) (j_X8_like la hla G _ (i0) (a1) (x2) _ q40) kl_X8_149 dX8_precedentOf_78 rfl rfl rfl rfl rfl ⟨rfl, rfl, Nat.le_of_ble_eq_true rfl, Nat.le_of_ble_eq_true rfl, Nat.le_of_ble_eq_true rfl, Nat.le_of_ble_eq_true rfl, Nat.le_of_ble_eq_true rfl⟩ (fun E q => by cases q) (fun r s q => ?_)
                  cases q
                  show k_W X _ _ _ _ _ ([k_i (v39), k_i (v37)])
                  refine r_icmp_ne (tgt := 101) h dX8_precedentOf_81 (by decide) (fun c41 => ?_) (fun c41 => ?_)
                  · replace hoc := (if_neg c41).symm.trans hoc
                    refine r_iinc (v := (x3 + 1)) (L' := [some (k_p 1 (i0)), some (k_i (a1)), some (k_i (x2)), some (k_i ((x3 + 1)))]) h dX8_precedentOf_101 rfl rfl (by decide) rfl ?_
                    refine r_goto (tgt := 4) h dX8_precedentOf_104 (by decide) ?_
                    exact r_forget (L' := [some (k_p 1 (i0)), some (k_i (a1)), some (k_i (x2)), some (k_i ((x3 + 1)))]) (k_le_ok ⟨rfl, ⟨rfl, ⟨rfl, ⟨rfl, trivial⟩⟩⟩⟩) (ih (x2) ((x3 + 1)) _ hoc kk)
                  · replace hoc := (if_pos c41).symm.trans hoc
                    refine r_aload_n h dX8_precedentOf_84 rfl ?_
                    obtain ⟨j42, q43, hoc⟩ := k_ob hoc
                    refine r_getR h kf_X8_57 dX8_precedentOf_85 rfl rfl (by decide) rfl (Eq.trans rfl q43) ?_
                    refine r_iload_n h dX8_precedentOf_88 rfl ?_
                    obtain ⟨c44, hoc⟩ := k_gd hoc
                    refine r_iaload (y := (x3).toNatClampNeg) (t := 0) h dX8_precedentOf_89 rfl rfl rfl (k_xx c44.1) c44.2 (by decide) ?_
                    refine r_aload_n h dX8_precedentOf_90 rfl ?_
                    refine r_getR h kf_X8_57 dX8_precedentOf_91 rfl rfl (by decide) rfl (Eq.trans rfl q43) ?_
                    refine r_iload_n h dX8_precedentOf_94 rfl ?_
                    obtain ⟨c45, hoc⟩ := k_gd hoc
                    refine r_iaload (y := (x2).toNatClampNeg) (t := 0) h dX8_precedentOf_95 rfl rfl rfl (k_xx c45.1) c45.2 (by decide) ?_
                    refine r_icmp_le (tgt := 101) h dX8_precedentOf_96 (by decide) (fun c46 => ?_) (fun c46 => ?_)
                    · replace hoc := (if_pos c46).symm.trans hoc
                      refine r_iinc (v := (x3 + 1)) (L' := [some (k_p 1 (i0)), some (k_i (a1)), some (k_i (x2)), some (k_i ((x3 + 1)))]) h dX8_precedentOf_101 rfl rfl (by decide) rfl ?_
                      refine r_goto (tgt := 4) h dX8_precedentOf_104 (by decide) ?_
                      exact r_forget (L' := [some (k_p 1 (i0)), some (k_i (a1)), some (k_i (x2)), some (k_i ((x3 + 1)))]) (k_le_ok ⟨rfl, ⟨rfl, ⟨rfl, ⟨rfl, trivial⟩⟩⟩⟩) (ih (x2) ((x3 + 1)) _ hoc kk)
                    · replace hoc := (if_neg c46).symm.trans hoc
                      refine r_iload_n h dX8_precedentOf_99 rfl ?_
                      refine r_istore_n (L' := [some (k_p 1 (i0)), some (k_i (a1)), some (k_i (x3)), some (k_i (x3))]) h dX8_precedentOf_100 (by decide) rfl ?_
                      refine r_iinc (v := (x3 + 1)) (L' := [some (k_p 1 (i0)), some (k_i (a1)), some (k_i (x3)), some (k_i ((x3 + 1)))]) h dX8_precedentOf_101 rfl rfl (by decide) rfl ?_
                      refine r_goto (tgt := 4) h dX8_precedentOf_104 (by decide) ?_
                      exact r_forget (L' := [some (k_p 1 (i0)), some (k_i (a1)), some (k_i (x3)), some (k_i ((x3 + 1)))]) (k_le_ok ⟨rfl, ⟨rfl, ⟨rfl, ⟨rfl, trivial⟩⟩⟩⟩) (ih (x3) ((x3 + 1)) _ hoc kk)
            · replace hoc := (if_neg c30).symm.trans hoc
              refine r_goto (tgt := 101) h dX8_precedentOf_47 (by decide) ?_
              refine r_iinc (v := (x3 + 1)) (L' := [some (k_p 1 (i0)), some (k_i (a1)), some (k_i (x2)), some (k_i ((x3 + 1)))]) h dX8_precedentOf_101 rfl rfl (by decide) rfl ?_
              refine r_goto (tgt := 4) h dX8_precedentOf_104 (by decide) ?_
              exact r_forget (L' := [some (k_p 1 (i0)), some (k_i (a1)), some (k_i (x2)), some (k_i ((x3 + 1)))]) (k_le_ok ⟨rfl, ⟨rfl, ⟨rfl, ⟨rfl, trivial⟩⟩⟩⟩) (ih (x2) ((x3 + 1)) _ hoc kk)
def f_X8_precedentOf (σ : k_S) (i0 : Nat) (a1 : Int32) : Option Int32 :=
  ((f_X8_precedentOf_l1 200 i0 a1 σ (-1) (0)).bind fun v47 => some (v47.1))
theorem j_X8_precedentOf (la : Launch) (hla : la.flags = flags0) (G : k_G) (σ : k_S) (i0 : Nat) (a1 : Int32) (x : Int32) (hoc : f_X8_precedentOf σ i0 a1 = some x) : k_Ct la G yX8_precedentOf (k_ws yX8_precedentOf cX8_precedentOf 4 (Option.some ClassFile.FieldType.int)) { frames := 2, cells := 0, slots := 0, locals := 43 } [k_p 1 (i0), k_i (a1)] σ (.inl (k_mI x, σ)) 0 0 := by
  refine k_body hla (by decide +kernel) (k_wl rfl) (Nat.le_of_ble_eq_true rfl) (fun X h hEn hMe => ?_)
  show k_W X σ 0 0 0 [some (k_p 1 (i0)), some (k_i (a1)), none, none] []
  unfold f_X8_precedentOf at hoc
  refine r_iconst (v := -1) h dX8_precedentOf_0 (by decide) ?_
  refine r_istore_n (L' := [some (k_p 1 (i0)), some (k_i (a1)), some (k_i (-1)), none]) h dX8_precedentOf_1 (by decide) rfl ?_
  refine r_iconst (v := 0) h dX8_precedentOf_2 (by decide) ?_
  refine r_istore_n (L' := [some (k_p 1 (i0)), some (k_i (a1)), some (k_i (-1)), some (k_i (0))]) h dX8_precedentOf_3 (by decide) rfl ?_
  obtain ⟨v47, q48, hoc⟩ := k_ob hoc
  refine j_X8_precedentOf_l1 la hla G X σ σ h hMe i0 a1 200 (-1) (0) _ q48 ?_
  refine r_iload_n h dX8_precedentOf_107 rfl ?_
  cases hoc
  exact r_ireturn h hEn dX8_precedentOf_108 rfl rfl rfl (by decide) (by decide)
def f_X8_outcomeBy (σ : k_S) (i0 : Nat) (a1 : Int32) (a2 : Int32) (a3 : Int32) : Option Int32 :=
  ((f_X8_rule σ (i0) (a1)).bind fun v1 => (if 0 ≤ v1 then ((k_P σ 1 (i0) (9)).bind fun j4 => (if 0 ≤ v1 ∧ (v1).toNatClampNeg < 12 then (if k_I σ 28 (j4) ((v1).toNatClampNeg) = 0 then some (119) else ((f_X8_precedentOf σ (i0) (a1)).bind fun v8 => (if v8 < 0 then (if v8 < 0 then (if (a2 + 0) ≤ (a3 + 0) then some (105) else some (103)) else ((k_P σ 1 (i0) (25)).bind fun j13 => (if 0 ≤ v8 ∧ (v8).toNatClampNeg < 20 then (if k_I σ 39 (j13) ((v8).toNatClampNeg) = (105 : Int32) then (if (a2 + 0) ≤ (a3 + 5) then some (105) else some (103)) else (if (a2 + 0) ≤ (a3 + 0) then some (105) else some (103))) else none))) else ((k_P σ 1 (i0) (25)).bind fun j19 => (if 0 ≤ v8 ∧ (v8).toNatClampNeg < 20 then (if k_I σ 39 (j19) ((v8).toNatClampNeg) = (103 : Int32) then (if v8 < 0 then (if (a2 + 5) ≤ (a3 + 0) then some (105) else some (103)) else (if 0 ≤ v8 ∧ (v8).toNatClampNeg < 20 then (if k_I σ 39 (j19) ((v8).toNatClampNeg) = (105 : Int32) then (if (a2 + 5) ≤ (a3 + 5) then some (105) else some (103)) else (if (a2 + 5) ≤ (a3 + 0) then some (105) else some (103))) else none)) else (if v8 < 0 then (if (a2 + 0) ≤ (a3 + 0) then some (105) else some (103)) else (if 0 ≤ v8 ∧ (v8).toNatClampNeg < 20 then (if k_I σ 39 (j19) ((v8).toNatClampNeg) = (105 : Int32) then (if (a2 + 0) ≤ (a3 + 5) then some (105) else some (103)) else (if (a2 + 0) ≤ (a3 + 0) then some (105) else some (103))) else none))) else none))))) else none)) else some (110)))
theorem j_X8_outcomeBy (la : Launch) (hla : la.flags = flags0) (G : k_G) (σ : k_S) (i0 : Nat) (a1 : Int32) (a2 : Int32) (a3 : Int32) (x : Int32) (hoc : f_X8_outcomeBy σ i0 a1 a2 a3 = some x) : k_Ct la G yX8_outcomeBy (k_ws yX8_outcomeBy cX8_outcomeBy 8 (Option.some ClassFile.FieldType.char)) { frames := 3, cells := 0, slots := 0, locals := 66 } [k_p 1 (i0), k_i (a1), k_i (a2), k_i (a3)] σ (.inl (k_mI x, σ)) 0 0 := by
  refine k_body hla (by decide +kernel) (k_wl rfl) (Nat.le_of_ble_eq_true rfl) (fun X h hEn hMe => ?_)
  show k_W X σ 0 0 0 [some (k_p 1 (i0)), some (k_i (a1)), some (k_i (a2)), some (k_i (a3)), none, none, none, none] []
  unfold f_X8_outcomeBy at hoc
  refine r_aload_n h dX8_outcomeBy_0 rfl ?_
  refine r_iload_n h dX8_outcomeBy_1 rfl ?_
  obtain ⟨v1, q2, hoc⟩ := k_ob hoc
  refine r_callV h hMe (rest := []) (as := [k_i (a1)]) (oc := .inl (k_mI v1, σ)) (j_X8_rule la hla G _ (i0) (a1) _ q2) kl_X8_127 dX8_outcomeBy_2 rfl rfl rfl rfl rfl ⟨rfl, rfl, Nat.le_of_ble_eq_true rfl, Nat.le_of_ble_eq_true rfl, Nat.le_of_ble_eq_true rfl, Nat.le_of_ble_eq_true rfl, Nat.le_of_ble_eq_true rfl⟩ (fun E q => by cases q) (fun r s q => ?_)
  cases q
  show k_W X _ _ _ _ _ ([k_i (v1)])
  refine r_istore (L' := [some (k_p 1 (i0)), some (k_i (a1)), some (k_i (a2)), some (k_i (a3)), some (k_i (v1)), none, none, none]) h dX8_outcomeBy_5 (by decide) rfl ?_
  refine r_iload h dX8_outcomeBy_7 rfl ?_
  refine r_if_ge (tgt := 15) h dX8_outcomeBy_9 (by decide) (fun c3 => ?_) (fun c3 => ?_)
  · replace hoc := (if_pos c3).symm.trans hoc
    refine r_aload_n h dX8_outcomeBy_15 rfl ?_
    obtain ⟨j4, q5, hoc⟩ := k_ob hoc
    refine r_getR h kf_X8_34 dX8_outcomeBy_16 rfl rfl (by decide) rfl (Eq.trans rfl q5) ?_
    refine r_iload h dX8_outcomeBy_19 rfl ?_
    obtain ⟨c6, hoc⟩ := k_gd hoc
    refine r_baload (y := (v1).toNatClampNeg) (t := 0) h dX8_outcomeBy_21 rfl rfl rfl (k_xx c6.1) c6.2 (by decide) ?_
    refine r_if_ne (tgt := 28) h dX8_outcomeBy_22 (by decide) (fun c7 => ?_) (fun c7 => ?_)
    · replace hoc := (if_neg c7).symm.trans hoc
      refine r_aload_n h dX8_outcomeBy_28 rfl ?_
      refine r_iload_n h dX8_outcomeBy_29 rfl ?_
      obtain ⟨v8, q9, hoc⟩ := k_ob hoc
      refine r_callV h hMe (rest := []) (as := [k_i (a1)]) (oc := .inl (k_mI v8, σ)) (j_X8_precedentOf la hla G _ (i0) (a1) _ q9) kl_X8_152 dX8_outcomeBy_30 rfl rfl rfl rfl rfl ⟨rfl, rfl, Nat.le_of_ble_eq_true rfl, Nat.le_of_ble_eq_true rfl, Nat.le_of_ble_eq_true rfl, Nat.le_of_ble_eq_true rfl, Nat.le_of_ble_eq_true rfl⟩ (fun E q => by cases q) (fun r s q => ?_)
      cases q
      show k_W X _ _ _ _ _ ([k_i (v8)])
      refine r_istore (L' := [some (k_p 1 (i0)), some (k_i (a1)), some (k_i (a2)), some (k_i (a3)), some (k_i (v1)), some (k_i (v8)), none, none]) h dX8_outcomeBy_33 (by decide) rfl ?_
      refine r_iload h dX8_outcomeBy_35 rfl ?_
      refine r_if_lt (tgt := 56) h dX8_outcomeBy_37 (by decide) (fun c10 => ?_) (fun c10 => ?_)
      · replace hoc := (if_pos c10).symm.trans hoc
        refine r_iconst (v := 0) h dX8_outcomeBy_56 (by decide) ?_
        refine r_istore (L' := [some (k_p 1 (i0)), some (k_i (a1)), some (k_i (a2)), some (k_i (a3)), some (k_i (v1)), some (k_i (v8)), some (k_i (0)), none]) h dX8_outcomeBy_57 (by decide) rfl ?_
        refine r_iload h dX8_outcomeBy_59 rfl ?_
        refine r_if_lt (tgt := 80) h dX8_outcomeBy_61 (by decide) (fun c11 => ?_) (fun c11 => ?_)
        · replace hoc := (if_pos c11).symm.trans hoc
          refine r_iconst (v := 0) h dX8_outcomeBy_80 (by decide) ?_
          refine r_istore (L' := [some (k_p 1 (i0)), some (k_i (a1)), some (k_i (a2)), some (k_i (a3)), some (k_i (v1)), some (k_i (v8)), some (k_i (0)), some (k_i (0))]) h dX8_outcomeBy_81 (by decide) rfl ?_
          refine r_iload_n h dX8_outcomeBy_83 rfl ?_
          refine r_iload h dX8_outcomeBy_84 rfl ?_
          refine r_iadd h dX8_outcomeBy_86 ?_
          refine r_iload_n h dX8_outcomeBy_87 rfl ?_
          refine r_iload h dX8_outcomeBy_88 rfl ?_
          refine r_iadd h dX8_outcomeBy_90 ?_
          refine r_icmp_le (tgt := 99) h dX8_outcomeBy_91 (by decide) (fun c12 => ?_) (fun c12 => ?_)
          · replace hoc := (if_pos c12).symm.trans hoc
            refine r_bipush (v := 105) h dX8_outcomeBy_99 (by decide) ?_
            cases hoc
            exact r_ireturn h hEn dX8_outcomeBy_101 rfl (by decide) rfl (by decide) (by decide)
          · replace hoc := (if_neg c12).symm.trans hoc
            refine r_bipush (v := 103) h dX8_outcomeBy_94 (by decide) ?_
            refine r_goto (tgt := 101) h dX8_outcomeBy_96 (by decide) ?_
            cases hoc
            exact r_ireturn h hEn dX8_outcomeBy_101 rfl (by decide) rfl (by decide) (by decide)
        · replace hoc := (if_neg c11).symm.trans hoc
          refine r_aload_n h dX8_outcomeBy_64 rfl ?_
          obtain ⟨j13, q14, hoc⟩ := k_ob hoc
          refine r_getR h kf_X8_73 dX8_outcomeBy_65 rfl rfl (by decide) rfl (Eq.trans rfl q14) ?_
          refine r_iload h dX8_outcomeBy_68 rfl ?_
          obtain ⟨c15, hoc⟩ := k_gd hoc
          refine r_caload (y := (v8).toNatClampNeg) (t := 0) h dX8_outcomeBy_70 rfl rfl rfl (k_xx c15.1) c15.2 (by decide) ?_
          refine r_bipush (v := 105) h dX8_outcomeBy_71 (by decide) ?_
          refine r_icmp_ne (tgt := 80) h dX8_outcomeBy_73 (by decide) (fun c16 => ?_) (fun c16 => ?_)
          · replace hoc := (if_neg c16).symm.trans hoc
            refine r_iconst (v := 0) h dX8_outcomeBy_80 (by decide) ?_
            refine r_istore (L' := [some (k_p 1 (i0)), some (k_i (a1)), some (k_i (a2)), some (k_i (a3)), some (k_i (v1)), some (k_i (v8)), some (k_i (0)), some (k_i (0))]) h dX8_outcomeBy_81 (by decide) rfl ?_
            refine r_iload_n h dX8_outcomeBy_83 rfl ?_
            refine r_iload h dX8_outcomeBy_84 rfl ?_
            refine r_iadd h dX8_outcomeBy_86 ?_
            refine r_iload_n h dX8_outcomeBy_87 rfl ?_
            refine r_iload h dX8_outcomeBy_88 rfl ?_
            refine r_iadd h dX8_outcomeBy_90 ?_
            refine r_icmp_le (tgt := 99) h dX8_outcomeBy_91 (by decide) (fun c17 => ?_) (fun c17 => ?_)
            · replace hoc := (if_pos c17).symm.trans hoc
              refine r_bipush (v := 105) h dX8_outcomeBy_99 (by decide) ?_
              cases hoc
              exact r_ireturn h hEn dX8_outcomeBy_101 rfl (by decide) rfl (by decide) (by decide)
            · replace hoc := (if_neg c17).symm.trans hoc
              refine r_bipush (v := 103) h dX8_outcomeBy_94 (by decide) ?_
              refine r_goto (tgt := 101) h dX8_outcomeBy_96 (by decide) ?_
              cases hoc
              exact r_ireturn h hEn dX8_outcomeBy_101 rfl (by decide) rfl (by decide) (by decide)
          · replace hoc := (if_pos c16).symm.trans hoc
            refine r_iconst (v := 5) h dX8_outcomeBy_76 (by decide) ?_
            refine r_goto (tgt := 81) h dX8_outcomeBy_77 (by decide) ?_
            refine r_istore (L' := [some (k_p 1 (i0)), some (k_i (a1)), some (k_i (a2)), some (k_i (a3)), some (k_i (v1)), some (k_i (v8)), some (k_i (0)), some (k_i (5))]) h dX8_outcomeBy_81 (by decide) rfl ?_
            refine r_iload_n h dX8_outcomeBy_83 rfl ?_
            refine r_iload h dX8_outcomeBy_84 rfl ?_
            refine r_iadd h dX8_outcomeBy_86 ?_
            refine r_iload_n h dX8_outcomeBy_87 rfl ?_
            refine r_iload h dX8_outcomeBy_88 rfl ?_
            refine r_iadd h dX8_outcomeBy_90 ?_
            refine r_icmp_le (tgt := 99) h dX8_outcomeBy_91 (by decide) (fun c18 => ?_) (fun c18 => ?_)
            · replace hoc := (if_pos c18).symm.trans hoc
              refine r_bipush (v := 105) h dX8_outcomeBy_99 (by decide) ?_
              cases hoc
              exact r_ireturn h hEn dX8_outcomeBy_101 rfl (by decide) rfl (by decide) (by decide)
            · replace hoc := (if_neg c18).symm.trans hoc
              refine r_bipush (v := 103) h dX8_outcomeBy_94 (by decide) ?_
              refine r_goto (tgt := 101) h dX8_outcomeBy_96 (by decide) ?_
              cases hoc
              exact r_ireturn h hEn dX8_outcomeBy_101 rfl (by decide) rfl (by decide) (by decide)
      · replace hoc := (if_neg c10).symm.trans hoc
        refine r_aload_n h dX8_outcomeBy_40 rfl ?_
        obtain ⟨j19, q20, hoc⟩ := k_ob hoc
        refine r_getR h kf_X8_73 dX8_outcomeBy_41 rfl rfl (by decide) rfl (Eq.trans rfl q20) ?_
        refine r_iload h dX8_outcomeBy_44 rfl ?_
        obtain ⟨c21, hoc⟩ := k_gd hoc
        refine r_caload (y := (v8).toNatClampNeg) (t := 0) h dX8_outcomeBy_46 rfl rfl rfl (k_xx c21.1) c21.2 (by decide) ?_
        refine r_bipush (v := 103) h dX8_outcomeBy_47 (by decide) ?_
        refine r_icmp_ne (tgt := 56) h dX8_outcomeBy_49 (by decide) (fun c22 => ?_) (fun c22 => ?_)
        · replace hoc := (if_neg c22).symm.trans hoc
          refine r_iconst (v := 0) h dX8_outcomeBy_56 (by decide) ?_
          refine r_istore (L' := [some (k_p 1 (i0)), some (k_i (a1)), some (k_i (a2)), some (k_i (a3)), some (k_i (v1)), some (k_i (v8)), some (k_i (0)), none]) h dX8_outcomeBy_57 (by decide) rfl ?_
          refine r_iload h dX8_outcomeBy_59 rfl ?_
          refine r_if_lt (tgt := 80) h dX8_outcomeBy_61 (by decide) (fun c23 => ?_) (fun c23 => ?_)
          · replace hoc := (if_pos c23).symm.trans hoc
            refine r_iconst (v := 0) h dX8_outcomeBy_80 (by decide) ?_
            refine r_istore (L' := [some (k_p 1 (i0)), some (k_i (a1)), some (k_i (a2)), some (k_i (a3)), some (k_i (v1)), some (k_i (v8)), some (k_i (0)), some (k_i (0))]) h dX8_outcomeBy_81 (by decide) rfl ?_
            refine r_iload_n h dX8_outcomeBy_83 rfl ?_
            refine r_iload h dX8_outcomeBy_84 rfl ?_
            refine r_iadd h dX8_outcomeBy_86 ?_
            refine r_iload_n h dX8_outcomeBy_87 rfl ?_
            refine r_iload h dX8_outcomeBy_88 rfl ?_
            refine r_iadd h dX8_outcomeBy_90 ?_
            refine r_icmp_le (tgt := 99) h dX8_outcomeBy_91 (by decide) (fun c24 => ?_) (fun c24 => ?_)
            · replace hoc := (if_pos c24).symm.trans hoc
              refine r_bipush (v := 105) h dX8_outcomeBy_99 (by decide) ?_
              cases hoc
              exact r_ireturn h hEn dX8_outcomeBy_101 rfl (by decide) rfl (by decide) (by decide)
            · replace hoc := (if_neg c24).symm.trans hoc
              refine r_bipush (v := 103) h dX8_outcomeBy_94 (by decide) ?_
              refine r_goto (tgt := 101) h dX8_outcomeBy_96 (by decide) ?_
              cases hoc
              exact r_ireturn h hEn dX8_outcomeBy_101 rfl (by decide) rfl (by decide) (by decide)
          · replace hoc := (if_neg c23).symm.trans hoc
            refine r_aload_n h dX8_outcomeBy_64 rfl ?_
            refine r_getR h kf_X8_73 dX8_outcomeBy_65 rfl rfl (by decide) rfl (Eq.trans rfl q20) ?_
            refine r_iload h dX8_outcomeBy_68 rfl ?_
            obtain ⟨c25, hoc⟩ := k_gd hoc
            refine r_caload (y := (v8).toNatClampNeg) (t := 0) h dX8_outcomeBy_70 rfl rfl rfl (k_xx c25.1) c25.2 (by decide) ?_
            refine r_bipush (v := 105) h dX8_outcomeBy_71 (by decide) ?_
            refine r_icmp_ne (tgt := 80) h dX8_outcomeBy_73 (by decide) (fun c26 => ?_) (fun c26 => ?_)
            · replace hoc := (if_neg c26).symm.trans hoc
              refine r_iconst (v := 0) h dX8_outcomeBy_80 (by decide) ?_
              refine r_istore (L' := [some (k_p 1 (i0)), some (k_i (a1)), some (k_i (a2)), some (k_i (a3)), some (k_i (v1)), some (k_i (v8)), some (k_i (0)), some (k_i (0))]) h dX8_outcomeBy_81 (by decide) rfl ?_
              refine r_iload_n h dX8_outcomeBy_83 rfl ?_
              refine r_iload h dX8_outcomeBy_84 rfl ?_
              refine r_iadd h dX8_outcomeBy_86 ?_
              refine r_iload_n h dX8_outcomeBy_87 rfl ?_
              refine r_iload h dX8_outcomeBy_88 rfl ?_
              refine r_iadd h dX8_outcomeBy_90 ?_
              refine r_icmp_le (tgt := 99) h dX8_outcomeBy_91 (by decide) (fun c27 => ?_) (fun c27 => ?_)
              · replace hoc := (if_pos c27).symm.trans hoc
                refine r_bipush (v := 105) h dX8_outcomeBy_99 (by decide) ?_
                cases hoc
                exact r_ireturn h hEn dX8_outcomeBy_101 rfl (by decide) rfl (by decide) (by decide)
              · replace hoc := (if_neg c27).symm.trans hoc
                refine r_bipush (v := 103) h dX8_outcomeBy_94 (by decide) ?_
                refine r_goto (tgt := 101) h dX8_outcomeBy_96 (by decide) ?_
                cases hoc
                exact r_ireturn h hEn dX8_outcomeBy_101 rfl (by decide) rfl (by decide) (by decide)
            · replace hoc := (if_pos c26).symm.trans hoc
              refine r_iconst (v := 5) h dX8_outcomeBy_76 (by decide) ?_
              refine r_goto (tgt := 81) h dX8_outcomeBy_77 (by decide) ?_
              refine r_istore (L' := [some (k_p 1 (i0)), some (k_i (a1)), some (k_i (a2)), some (k_i (a3)), some (k_i (v1)), some (k_i (v8)), some (k_i (0)), some (k_i (5))]) h dX8_outcomeBy_81 (by decide) rfl ?_
              refine r_iload_n h dX8_outcomeBy_83 rfl ?_
              refine r_iload h dX8_outcomeBy_84 rfl ?_
              refine r_iadd h dX8_outcomeBy_86 ?_
              refine r_iload_n h dX8_outcomeBy_87 rfl ?_
              refine r_iload h dX8_outcomeBy_88 rfl ?_
              refine r_iadd h dX8_outcomeBy_90 ?_
              refine r_icmp_le (tgt := 99) h dX8_outcomeBy_91 (by decide) (fun c28 => ?_) (fun c28 => ?_)
              · replace hoc := (if_pos c28).symm.trans hoc
                refine r_bipush (v := 105) h dX8_outcomeBy_99 (by decide) ?_
                cases hoc
                exact r_ireturn h hEn dX8_outcomeBy_101 rfl (by decide) rfl (by decide) (by decide)
              · replace hoc := (if_neg c28).symm.trans hoc
                refine r_bipush (v := 103) h dX8_outcomeBy_94 (by decide) ?_
                refine r_goto (tgt := 101) h dX8_outcomeBy_96 (by decide) ?_
                cases hoc
                exact r_ireturn h hEn dX8_outcomeBy_101 rfl (by decide) rfl (by decide) (by decide)
        · replace hoc := (if_pos c22).symm.trans hoc
          refine r_iconst (v := 5) h dX8_outcomeBy_52 (by decide) ?_
          refine r_goto (tgt := 57) h dX8_outcomeBy_53 (by decide) ?_
          refine r_istore (L' := [some (k_p 1 (i0)), some (k_i (a1)), some (k_i (a2)), some (k_i (a3)), some (k_i (v1)), some (k_i (v8)), some (k_i (5)), none]) h dX8_outcomeBy_57 (by decide) rfl ?_
          refine r_iload h dX8_outcomeBy_59 rfl ?_
          refine r_if_lt (tgt := 80) h dX8_outcomeBy_61 (by decide) (fun c29 => ?_) (fun c29 => ?_)
          · replace hoc := (if_pos c29).symm.trans hoc
            refine r_iconst (v := 0) h dX8_outcomeBy_80 (by decide) ?_
            refine r_istore (L' := [some (k_p 1 (i0)), some (k_i (a1)), some (k_i (a2)), some (k_i (a3)), some (k_i (v1)), some (k_i (v8)), some (k_i (5)), some (k_i (0))]) h dX8_outcomeBy_81 (by decide) rfl ?_
            refine r_iload_n h dX8_outcomeBy_83 rfl ?_
            refine r_iload h dX8_outcomeBy_84 rfl ?_
            refine r_iadd h dX8_outcomeBy_86 ?_
            refine r_iload_n h dX8_outcomeBy_87 rfl ?_
            refine r_iload h dX8_outcomeBy_88 rfl ?_
            refine r_iadd h dX8_outcomeBy_90 ?_
            refine r_icmp_le (tgt := 99) h dX8_outcomeBy_91 (by decide) (fun c30 => ?_) (fun c30 => ?_)
            · replace hoc := (if_pos c30).symm.trans hoc
              refine r_bipush (v := 105) h dX8_outcomeBy_99 (by decide) ?_
              cases hoc
              exact r_ireturn h hEn dX8_outcomeBy_101 rfl (by decide) rfl (by decide) (by decide)
            · replace hoc := (if_neg c30).symm.trans hoc
              refine r_bipush (v := 103) h dX8_outcomeBy_94 (by decide) ?_
              refine r_goto (tgt := 101) h dX8_outcomeBy_96 (by decide) ?_
              cases hoc
              exact r_ireturn h hEn dX8_outcomeBy_101 rfl (by decide) rfl (by decide) (by decide)
          · replace hoc := (if_neg c29).symm.trans hoc
            refine r_aload_n h dX8_outcomeBy_64 rfl ?_
            refine r_getR h kf_X8_73 dX8_outcomeBy_65 rfl rfl (by decide) rfl (Eq.trans rfl q20) ?_
            refine r_iload h dX8_outcomeBy_68 rfl ?_
            obtain ⟨c31, hoc⟩ := k_gd hoc
            refine r_caload (y := (v8).toNatClampNeg) (t := 0) h dX8_outcomeBy_70 rfl rfl rfl (k_xx c31.1) c31.2 (by decide) ?_
            refine r_bipush (v := 105) h dX8_outcomeBy_71 (by decide) ?_
            refine r_icmp_ne (tgt := 80) h dX8_outcomeBy_73 (by decide) (fun c32 => ?_) (fun c32 => ?_)
            · replace hoc := (if_neg c32).symm.trans hoc
              refine r_iconst (v := 0) h dX8_outcomeBy_80 (by decide) ?_
              refine r_istore (L' := [some (k_p 1 (i0)), some (k_i (a1)), some (k_i (a2)), some (k_i (a3)), some (k_i (v1)), some (k_i (v8)), some (k_i (5)), some (k_i (0))]) h dX8_outcomeBy_81 (by decide) rfl ?_
              refine r_iload_n h dX8_outcomeBy_83 rfl ?_
              refine r_iload h dX8_outcomeBy_84 rfl ?_
              refine r_iadd h dX8_outcomeBy_86 ?_
              refine r_iload_n h dX8_outcomeBy_87 rfl ?_
              refine r_iload h dX8_outcomeBy_88 rfl ?_
              refine r_iadd h dX8_outcomeBy_90 ?_
              refine r_icmp_le (tgt := 99) h dX8_outcomeBy_91 (by decide) (fun c33 => ?_) (fun c33 => ?_)
              · replace hoc := (if_pos c33).symm.trans hoc
                refine r_bipush (v := 105) h dX8_outcomeBy_99 (by decide) ?_
                cases hoc
                exact r_ireturn h hEn dX8_outcomeBy_101 rfl (by decide) rfl (by decide) (by decide)
              · replace hoc := (if_neg c33).symm.trans hoc
                refine r_bipush (v := 103) h dX8_outcomeBy_94 (by decide) ?_
                refine r_goto (tgt := 101) h dX8_outcomeBy_96 (by decide) ?_
                cases hoc
                exact r_ireturn h hEn dX8_outcomeBy_101 rfl (by decide) rfl (by decide) (by decide)
            · replace hoc := (if_pos c32).symm.trans hoc
              refine r_iconst (v := 5) h dX8_outcomeBy_76 (by decide) ?_
              refine r_goto (tgt := 81) h dX8_outcomeBy_77 (by decide) ?_
              refine r_istore (L' := [some (k_p 1 (i0)), some (k_i (a1)), some (k_i (a2)), some (k_i (a3)), some (k_i (v1)), some (k_i (v8)), some (k_i (5)), some (k_i (5))]) h dX8_outcomeBy_81 (by decide) rfl ?_
              refine r_iload_n h dX8_outcomeBy_83 rfl ?_
              refine r_iload h dX8_outcomeBy_84 rfl ?_
              refine r_iadd h dX8_outcomeBy_86 ?_
              refine r_iload_n h dX8_outcomeBy_87 rfl ?_
              refine r_iload h dX8_outcomeBy_88 rfl ?_
              refine r_iadd h dX8_outcomeBy_90 ?_
              refine r_icmp_le (tgt := 99) h dX8_outcomeBy_91 (by decide) (fun c34 => ?_) (fun c34 => ?_)
              · replace hoc := (if_pos c34).symm.trans hoc
                refine r_bipush (v := 105) h dX8_outcomeBy_99 (by decide) ?_
                cases hoc
                exact r_ireturn h hEn dX8_outcomeBy_101 rfl (by decide) rfl (by decide) (by decide)
              · replace hoc := (if_neg c34).symm.trans hoc
                refine r_bipush (v := 103) h dX8_outcomeBy_94 (by decide) ?_
                refine r_goto (tgt := 101) h dX8_outcomeBy_96 (by decide) ?_
                cases hoc
                exact r_ireturn h hEn dX8_outcomeBy_101 rfl (by decide) rfl (by decide) (by decide)
    · replace hoc := (if_pos c7).symm.trans hoc
      refine r_bipush (v := 119) h dX8_outcomeBy_25 (by decide) ?_
      cases hoc
      exact r_ireturn h hEn dX8_outcomeBy_27 rfl (by decide) rfl (by decide) (by decide)
  · replace hoc := (if_neg c3).symm.trans hoc
    refine r_bipush (v := 110) h dX8_outcomeBy_12 (by decide) ?_
    cases hoc
    exact r_ireturn h hEn dX8_outcomeBy_14 rfl (by decide) rfl (by decide) (by decide)
