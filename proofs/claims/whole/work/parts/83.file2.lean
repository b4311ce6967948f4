/-! ===== THE PURE PART: file, 2 (written by wip/whole/gen83.py) ===== -/
theorem q_hf_uP {σ : k_S} {l i k : Nat} {p : Option Nat} {s r : Nat} {sF sA : Int32} : q_hf (k_uP σ l i k p) s r sF sA = q_hf σ s r sF sA ∧ q_hr (k_uP σ l i k p) r = q_hr σ r := by
  have e1 : q_hr (k_uP σ l i k p) r = q_hr σ r := by
    unfold q_hr q_ho
    simp only [q_IP, q_ZP]
  refine ⟨?_, e1⟩
  unfold q_hf
  rw [e1]
  have e2 : q_hp (k_uP σ l i k p) s r = q_hp σ s r := by
    unfold q_hp
    simp only [q_IP, q_ZP]
  rw [e2]
  simp only [q_IP]
theorem q_H_bot {σ : k_S} (h : q_H σ) {r k : Nat} {p : Option Nat} : q_H (k_uP σ 5 r k p) := by
  obtain ⟨h1, h2, h3, h4, h5, h6, h7, h8, h9⟩ := h
  refine ⟨?_, ?_, h3, h4, h5, h6, h7, h8, fun l j c1 c2 c3 => ?_⟩
  · simpa [q_II, q_IJ, q_ID, q_IP, q_In, q_Ia, q_JI, q_JJ, q_JD, q_JP, q_Jn, q_Ja, q_PI, q_PJ, q_PD, q_PP, q_Pn, q_Pa, q_NI, q_NJ, q_ND, q_NP, q_Nn, q_Na, q_ZI, q_ZJ, q_ZD, q_ZP, q_Zn, q_Za] using h1
  · simpa [q_II, q_IJ, q_ID, q_IP, q_In, q_Ia, q_JI, q_JJ, q_JD, q_JP, q_Jn, q_Ja, q_PI, q_PJ, q_PD, q_PP, q_Pn, q_Pa, q_NI, q_NJ, q_ND, q_NP, q_Nn, q_Na, q_ZI, q_ZJ, q_ZD, q_ZP, q_Zn, q_Za] using h2
  · rw [q_PP, if_neg (by omega)]
    exact h9 l j c1 c2 c3
theorem q_bk_mk {T : Nat} {a m : k_S} (h : q_I T a m) {fa ev : Int32} {b : Nat} (hb : b < k_Z a 14) : q_bk a fa ev b = q_mk m fa ev b := by
  unfold q_bk q_mk
  rw [(h.Bo b hb).1, (h.Bo b hb).2.1]
theorem q_div10 {e : Nat} (h : e ≤ 100) : (nI e) / 10 = nI (e / 10) := pk_div (a := e) (d := 10) (by omega) (by omega) (by omega)
theorem g_file {T : Nat} {σ : k_S} (hI : q_I T σ σ) (x y f e : Int32) : q_Ok (f_L_file σ 0 x y f e 0) (fun τ => f_X8_file τ 0 x y f e) := by
  have hz5 := hI.H.z15
  have hz3 := hI.H.z13
  have hz4 := hI.H.z14
  rcases q_ix x (n := k_Z σ 13) (by omega) with ⟨u1, hu1, rfl⟩ | hx
  rotate_left
  · refine q_exc hI (k := 1) (b := 0) (by decide) ?_ ?_
    · unfold f_L_file f_X7_file
      rw [q_userAtb hI.H hx]
      simp [k_bc, k_bt]
    · show f_X8_file σ 0 x y f e = _
      have h' := hI.th (v := 0)
      unfold f_X8_file
      rw [q_isUserb h'.M hx, Option.bind_some, if_pos rfl, q_fails]
      rfl
  rcases q_ix y (n := k_Z σ 13) (by omega) with ⟨u2, hu2, rfl⟩ | hy
  rotate_left
  · refine q_exc hI (k := 1) (b := 0) (by decide) ?_ ?_
    · unfold f_L_file f_X7_file
      rw [q_userAt hI.H hu1]
      simp only [k_bc, k_bt]
      rw [q_userAtb hI.H hy]
      simp
    · show f_X8_file σ 0 (nI u1) y f e = _
      have h' := hI.th (v := 0)
      unfold f_X8_file
      rw [q_isUser h'.M hu1, Option.bind_some, if_neg (by decide), q_isUserb h'.M hy, Option.bind_some, if_pos rfl, q_fails]
      rfl
  by_cases hne : nI u1 = nI u2
  · refine q_exc hI (k := 2) (b := 0) (by decide) ?_ ?_
    · unfold f_L_file f_X7_file
      rw [q_userAt hI.H hu1]
      simp only [k_bc, k_bt]
      rw [q_userAt hI.H hu2]
      simp only
      rw [if_pos hne]
      simp
    · show f_X8_file σ 0 (nI u1) (nI u2) f e = _
      have h' := hI.th (v := 0)
      unfold f_X8_file
      rw [q_isUser h'.M hu1, Option.bind_some, if_neg (by decide), q_isUser h'.M hu2, Option.bind_some, if_neg (by decide), if_pos hne, q_fails]
      rfl
  by_cases hf : ¬ q_rw f 1 255
  · refine q_exc hI (k := 2) (b := 0) (by decide) ?_ ?_
    · unfold f_L_file f_X7_file
      rw [q_userAt hI.H hu1]
      simp only [k_bc, k_bt]
      rw [q_userAt hI.H hu2]
      simp only
      rw [if_neg hne, (q_rwb σ hf).1]
      simp
    · show f_X8_file σ 0 (nI u1) (nI u2) f e = _
      have h' := hI.th (v := 0)
      unfold f_X8_file
      rw [q_isUser h'.M hu1, Option.bind_some, if_neg (by decide), q_isUser h'.M hu2, Option.bind_some, if_neg (by decide), if_neg hne, (q_rwb σ hf).2, Option.bind_some, if_pos rfl, q_fails]
      rfl
  replace hf := Classical.not_not.mp hf
  by_cases he : ¬ q_rw e 0 100
  · refine q_exc hI (k := 2) (b := 0) (by decide) ?_ ?_
    · unfold f_L_file f_X7_file
      rw [q_userAt hI.H hu1]
      simp only [k_bc, k_bt]
      rw [q_userAt hI.H hu2]
      simp only
      rw [if_neg hne, (q_rwg σ hf).1]
      simp only
      rw [(q_rwb σ he).1]
      simp
    · show f_X8_file σ 0 (nI u1) (nI u2) f e = _
      have h' := hI.th (v := 0)
      unfold f_X8_file
      rw [q_isUser h'.M hu1, Option.bind_some, if_neg (by decide), q_isUser h'.M hu2, Option.bind_some, if_neg (by decide), if_neg hne, (q_rwg σ hf).2, Option.bind_some, if_neg (by decide), (q_rwb σ he).2, Option.bind_some, if_pos rfl, q_fails]
      rfl
  replace he := Classical.not_not.mp he
  by_cases hN : ¬ (k_Z σ 15 < 20)
  · have e20 : k_Z σ 15 = 20 := by omega
    refine q_exc hI (k := 3) (b := 0) (by decide) ?_ ?_
    · unfold f_L_file f_X7_file
      rw [q_userAt hI.H hu1]
      simp only [k_bc, k_bt]
      rw [q_userAt hI.H hu2]
      simp only
      rw [if_neg hne, (q_rwg σ hf).1]
      simp only
      rw [(q_rwg σ he).1]
      simp only
      rw [if_pos hI.H.p3, e20, show (20 : Int32) = nI 20 from rfl, q_roomb σ (by omega)]
      simp
    · show f_X8_file σ 0 (nI u1) (nI u2) f e = _
      have h' := hI.th (v := 0)
      unfold f_X8_file
      rw [q_isUser h'.M hu1, Option.bind_some, if_neg (by decide), q_isUser h'.M hu2, Option.bind_some, if_neg (by decide), if_neg hne, (q_rwg σ hf).2, Option.bind_some, if_neg (by decide), (q_rwg σ he).2, Option.bind_some, if_neg (by decide), hI.M.N, e20, if_pos (by rfl), q_fails]
      rfl
  replace hN := Classical.not_not.mp hN
  obtain ⟨fN, -, -, rfl⟩ := q_rwI (na := 1) (nb := 255) rfl (by decide) (by omega) hf (by decide)
  obtain ⟨eN, -, he2, rfl⟩ := q_rwI (na := 0) (nb := 100) rfl (by decide) (by omega) he (by decide)
  -- the report is there, no bot yet
  have pair : ∀ τ, q_I T σ τ → q_I T (q_nw5 σ (nI (k_Z σ 15)) u1 u2 (nI fN) (nI eN) (nI T)) (q_mw5 (k_uI τ 1 0 0 0) (k_Z σ 15) (nI u1) (nI u2) (nI fN) (nI eN) (nI T)) := fun τ hm => q_file_I hm.th hN hu1 hu2 he2
  have hrm : f_X7_requireRoom σ (nI (k_Z σ 15)) 20 = some (.inl ()) := q_room σ (b := 20) hN (by omega)
  have hall : f_X7_file σ 0 (nI u1) (nI u2) (nI fN) (nI eN) = ((f_X7_botFor (q_nw5 σ (nI (k_Z σ 15)) u1 u2 (nI fN) (nI eN) (nI T)) 0 (k_N σ 5)).bind fun v19 => (k_on (v19) (some (.inl ((nI (k_Z σ 15)), (k_uP (q_nw5 σ (nI (k_Z σ 15)) u1 u2 (nI fN) (nI eN) (nI T)) 5 (k_N σ 5) (8) (none))))) (fun j21 => ((f_X7_settle (k_uP (q_nw5 σ (nI (k_Z σ 15)) u1 u2 (nI fN) (nI eN) (nI T)) 5 (k_N σ 5) (8) (some (j21))) 0 (k_N σ 5) ((nI eN / 10)) (0)).bind fun v22 => some (.inl ((nI (k_Z σ 15)), v22.2)))))) := by
    unfold f_X7_file
    rw [q_userAt hI.H hu1]
    simp only [k_bt]
    rw [q_userAt hI.H hu2]
    simp only
    rw [if_neg hne, (q_rwg σ hf).1]
    simp only
    rw [(q_rwg σ he).1]
    simp only
    rw [if_pos hI.H.p3, hrm]
    simp only
    unfold f_X2_init
    rw [Option.bind_some, hI.Td.1]
    dsimp only
    rw [if_pos (by simp [q_II, q_IJ, q_ID, q_IP, q_In, q_Ia, q_JI, q_JJ, q_JD, q_JP, q_Jn, q_Ja, q_PI, q_PJ, q_PD, q_PP, q_Pn, q_Pa, q_NI, q_NJ, q_ND, q_NP, q_Nn, q_Na, q_ZI, q_ZJ, q_ZD, q_ZP, q_Zn, q_Za]; exact hI.H.p3), if_pos (by simp [q_II, q_IJ, q_ID, q_IP, q_In, q_Ia, q_JI, q_JJ, q_JD, q_JP, q_Jn, q_Ja, q_PI, q_PJ, q_PD, q_PP, q_Pn, q_Pa, q_NI, q_NJ, q_ND, q_NP, q_Nn, q_Na, q_ZI, q_ZJ, q_ZD, q_ZP, q_Zn, q_Za]; omega)]
    rfl
  have modl : ∀ τ, q_I T σ τ → f_X8_file τ 0 (nI u1) (nI u2) (nI fN) (nI eN) = ((f_X8_file_l1 200 0 (nI u1) (nI u2) (nI fN) (nI eN) (nI (k_Z σ 15)) (q_mw5 (k_uI τ 1 0 0 0) (k_Z σ 15) (nI u1) (nI u2) (nI fN) (nI eN) (nI T)) 0).bind fun v57 => some (nI (k_Z σ 15), v57.2)) := fun τ hm => by
    have h' := hm.th (v := 0)
    have k20 : ¬ nI (k_Z σ 15) = 20 := fun q => by
      have := (nI_eq (a := k_Z σ 15) (b := 20) (by omega) (by omega)).mp q
      omega
    have gN : 0 ≤ nI (k_Z σ 15) ∧ (nI (k_Z σ 15)).toNatClampNeg < 20 := of_eq_true (q_g (by omega) (by omega))
    unfold f_X8_file
    rw [q_isUser h'.M hu1, Option.bind_some, if_neg (by decide), q_isUser h'.M hu2, Option.bind_some, if_neg (by decide), if_neg hne, (q_rwg σ hf).2, Option.bind_some, if_neg (by decide), (q_rwg σ he).2, Option.bind_some, if_neg (by decide), hm.M.N, if_neg k20, hm.M.q.1, Option.bind_some, if_pos gN, hm.M.q.2.1, Option.bind_some, if_pos gN, hm.M.q.2.2.1, Option.bind_some, if_pos gN, hm.M.q.2.2.2.1, Option.bind_some, if_pos gN, hm.M.q.2.2.2.2.1, Option.bind_some, if_pos gN, hm.M.q.2.2.2.2.2.2.2.2.2.1, Option.bind_some, if_pos gN, hm.M.q.2.2.2.2.2.2.2.2.2.2.2.1, Option.bind_some, if_pos gN, hm.Td.2.1, q_c (by omega), nI_1]
    rfl
  have n5 := hI.H.n5
  rw [n5] at hall
  obtain ⟨⟨w0, w3, w4, w5, w7, w10, w11, w12⟩, x1, x2, x6, x8, x9⟩ := q_nw5_n (σ := σ) (n := nI (k_Z σ 15)) (u1 := u1) (u2 := u2) (a3 := nI fN) (a4 := nI eN) (d := nI T)
  rw [n5] at w0 w3 w4 w5 w7 w10 w11 w12 x1 x2 x6 x8 x9
  have Z15 : k_Z (q_nw5 σ (nI (k_Z σ 15)) u1 u2 (nI fN) (nI eN) (nI T)) 15 = k_Z σ 15 + 1 := q_nw5_Z
  have zz : ∀ l, l ≠ 5 → l ≠ 9 → l ≠ 15 → k_Z (q_nw5 σ (nI (k_Z σ 15)) u1 u2 (nI fN) (nI eN) (nI T)) l = k_Z σ l := fun l a b c => (q_nw5_al a b c).2.2
  have smφ : q_sm σ (q_nw5 σ (nI (k_Z σ 15)) u1 u2 (nI fN) (nI eN) (nI T)) := by
    unfold q_nw5
    exact ((((((((((((q_sm.rf.new (by omega)).uI (by omega)).uP (by omega)).uP (by omega)).uI (by omega)).uI (by omega)).uI (by omega)).new (by omega)).uP (by omega)).uI (by omega)).uI (by omega))).ladd (by omega)
  have shμ : ∀ τ, q_sh τ (q_mw5 (k_uI τ 1 0 0 0) (k_Z σ 15) (nI u1) (nI u2) (nI fN) (nI eN) (nI T)) := fun τ => by
    unfold q_mw5
    exact ((((((((q_sh.rf.uI (by omega)).uI (by omega)).uI (by omega)).uI (by omega)).uI (by omega)).uI (by omega)).uI (by omega)).uI (by omega)).uI (by omega)
  have t0 : ∀ τ, k_I (q_mw5 (k_uI τ 1 0 0 0) (k_Z σ 15) (nI u1) (nI u2) (nI fN) (nI eN) (nI T)) 1 0 0 = 0 := fun τ => by rw [q_mw5_1 (by decide), q_thr1]
  have j0 : ∀ τ, k_J (q_mw5 (k_uI τ 1 0 0 0) (k_Z σ 15) (nI u1) (nI u2) (nI fN) (nI eN) (nI T)) 18 0 0 = k_J τ 18 0 0 := fun τ => by unfold q_mw5; simp [q_II, q_IJ, q_ID, q_IP, q_In, q_Ia, q_JI, q_JJ, q_JD, q_JP, q_Jn, q_Ja, q_PI, q_PJ, q_PD, q_PP, q_Pn, q_Pa, q_NI, q_NJ, q_ND, q_NP, q_Nn, q_Na, q_ZI, q_ZJ, q_ZD, q_ZP, q_Zn, q_Za]
  have v38 : ∀ τ, k_I (q_mw5 (k_uI τ 1 0 0 0) (k_Z σ 15) (nI u1) (nI u2) (nI fN) (nI eN) (nI T)) 38 0 (k_Z σ 15) = 111 := fun τ => (q_mw5_n).2.2.2.2.2.1
  obtain ⟨φ, hφ⟩ : ∃ φ, φ = q_nw5 σ (nI (k_Z σ 15)) u1 u2 (nI fN) (nI eN) (nI T) := ⟨_, rfl⟩
  rw [← hφ] at hall w0 w3 w4 w5 w7 w10 w11 w12 x1 x2 x6 x8 x9 Z15 zz smφ pair
  obtain ⟨B1, B2⟩ := q_botFor (pair σ hI).H (k_Z σ 15)
  rw [w3, w4, zz 14 (by decide) (by decide) (by decide)] at B1 B2
  have bkmk : ∀ τ, q_I T σ τ → ∀ i, i < k_Z σ 14 → q_bk φ (nI fN) (nI eN) i = q_mk (q_mw5 (k_uI τ 1 0 0 0) (k_Z σ 15) (nI u1) (nI u2) (nI fN) (nI eN) (nI T)) (nI fN) (nI eN) i := fun τ hm i hi => q_bk_mk (pair τ hm) (by rw [zz 14 (by decide) (by decide) (by decide)]; exact hi)
  have mM : ∀ τ, q_I T σ τ → q_M (k_Z φ 12) (k_Z φ 13) (k_Z σ 14) (k_Z φ 15) (q_mw5 (k_uI τ 1 0 0 0) (k_Z σ 15) (nI u1) (nI u2) (nI fN) (nI eN) (nI T)) := fun τ hm => by
    have := (pair τ hm).M
    rw [zz 14 (by decide) (by decide) (by decide)] at this
    exact this
  rcases q_first (q_bk φ (nI fN) (nI eN)) (k_Z σ 14) with hno | ⟨j, hj, hj1, hj2⟩
  · refine q_mut (H := φ) (v := nI (k_Z σ 15)) (Mu := fun τ => q_mw5 (k_uI τ 1 0 0 0) (k_Z σ 15) (nI u1) (nI u2) (nI fN) (nI eN) (nI T)) (T' := T) hI ?_ smφ (fun τ hm => ?_) t0 j0 shμ pair
    · unfold f_L_file
      rw [hall, B1 hno, Option.bind_some]
      show k_bc (some (.inl (nI (k_Z σ 15), k_uP φ 5 (k_Z σ 15) 8 none))) _ _ = _
      have e8 : k_uP φ 5 (k_Z σ 15) 8 none = φ := by
        have := q_uP_id φ 5 (k_Z σ 15) 8
        rw [x8] at this
        exact this
      rw [e8]
      rfl
    · show f_X8_file τ 0 _ _ _ _ = _
      rw [modl τ hm, (q_m_bots (mM τ hm) hN (v38 τ) _ _ _ _).1 (fun i hi => by rw [← bkmk τ hm i hi]; exact hno i hi), Option.bind_some]
  · obtain ⟨o, ho⟩ : ∃ o, o = q_hf φ 0 (k_Z σ 15) (nI (eN / 10)) 0 := ⟨_, rfl⟩
    have hr15 : k_Z σ 15 < k_Z φ 15 := by omega
    obtain ⟨rz1, rz2⟩ := (pair σ hI).roomZ hr15 (Or.inl (by rw [v38]; decide))
    have hocc : q_oc o := by
      rw [ho]
      unfold q_hf
      rw [q_fo_fc]
      exact q_fc_oc
    have chφ : q_ch (k_uP φ 5 (k_Z σ 15) 8 (some j)) 0 := fun r hr => by
      rw [q_IP]
      exact (pair σ hI).ch r hr
    have set := q_settle (σ := k_uP φ 5 (k_Z σ 15) 8 (some j)) (q_H_bot (pair σ hI).H) (by rw [q_ZP]; exact rz1) (by rw [q_ZP]; exact rz2) chφ hN (by rw [q_IP]; exact w0) (by rw [q_PP, if_neg (by omega)]; exact x2) (nI (eN / 10)) 0
    rw [(q_hf_uP).1, (q_hf_uP (s := 0) (sF := 0) (sA := 0)).2, q_IP, ← ho] at set
    have Ip : ∀ τ, q_I T σ τ → q_I T (q_stl (k_uP φ 5 (k_Z σ 15) 8 (some j)) (k_Z σ 15) u2 o (nI (eN / 10)) 0 (k_I φ 2 (q_hr φ (k_Z σ 15)).1.toNatClampNeg 3)) (q_mdl (q_mw5 (k_uI τ 1 0 0 0) (k_Z σ 15) (nI u1) (nI u2) (nI fN) (nI eN) (nI T)) (k_Z σ 15) o (nI j) (k_I φ 2 (q_hr φ (k_Z σ 15)).1.toNatClampNeg 3)) := fun τ hm => by
      have := q_first_I (pair τ hm) hr15 (v38 τ) x2 (p := some j) (b := nI j) (Or.inr ⟨j, by rw [zz 14 (by decide) (by decide) (by decide)]; exact hj, rfl, rfl⟩) (nI (eN / 10)) 0
      rw [← ho] at this
      exact this
    refine q_mut (H := q_stl (k_uP φ 5 (k_Z σ 15) 8 (some j)) (k_Z σ 15) u2 o (nI (eN / 10)) 0 (k_I φ 2 (q_hr φ (k_Z σ 15)).1.toNatClampNeg 3)) (v := nI (k_Z σ 15)) (Mu := fun τ => q_mdl (q_mw5 (k_uI τ 1 0 0 0) (k_Z σ 15) (nI u1) (nI u2) (nI fN) (nI eN) (nI T)) (k_Z σ 15) o (nI j) (k_I φ 2 (q_hr φ (k_Z σ 15)).1.toNatClampNeg 3)) (T' := T) hI ?_ (q_sm.tr (q_sm.uP smφ (by omega)) q_stl_sm) (fun τ hm => ?_) (fun τ => ?_) (fun τ => ?_) (fun τ => q_sh.tr (shμ τ) q_mdl_sh) Ip
    · unfold f_L_file
      rw [hall, B2 j hj hj1 hj2, Option.bind_some]
      show k_bc ((f_X7_settle (k_uP φ 5 (k_Z σ 15) 8 (some j)) 0 (k_Z σ 15) (nI eN / 10) 0).bind fun v22 => some (.inl (nI (k_Z σ 15), v22.2))) _ _ = _
      rw [q_div10 he2, set, Option.bind_some]
      rfl
    · show f_X8_file τ 0 _ _ _ _ = _
      have hp := pair τ hm
      have dec : f_X8_decides (q_mw5 (k_uI τ 1 0 0 0) (k_Z σ 15) (nI u1) (nI u2) (nI fN) (nI eN) (nI T)) 0 (nI (k_Z σ 15)) (nI eN / 10) 0 (nI j) = some ((), q_mdl (q_mw5 (k_uI τ 1 0 0 0) (k_Z σ 15) (nI u1) (nI u2) (nI fN) (nI eN) (nI T)) (k_Z σ 15) o (nI j) (k_I φ 2 (q_hr φ (k_Z σ 15)).1.toNatClampNeg 3)) := by
        rw [q_div10 he2, q_decides hp.M hN hp.hrk, ← hp.hf hr15, ← ho, q_mdl_d (d' := k_I φ 2 (q_hr φ (k_Z σ 15)).1.toNatClampNeg 3)]
        rcases hp.rd hr15 (sF := nI (eN / 10)) (sA := 0) with q | q
        · exact Or.inl q.symm
        · exact Or.inr (by rw [ho]; exact q)
      obtain ⟨v, hv⟩ := (q_m_bots (mM τ hm) hN (v38 τ) (nI u1) (nI u2) (nI fN) (nI eN)).2 j _ hj (by rw [← bkmk τ hm j hj]; exact hj1) (fun k hk => by rw [← bkmk τ hm k (by omega)]; exact hj2 k hk) dec (q_mdl_M (mM τ hm)) q_mdl_r.1
      rw [modl τ hm, hv, Option.bind_some]
    · show k_I (q_mdl _ _ _ _ _) 1 0 0 = 0
      rw [q_mdl_Io (by decide)]
      exact t0 τ
    · show k_J (q_mdl _ _ _ _ _) 18 0 0 = _
      rw [q_mdl_J]
      exact j0 τ
