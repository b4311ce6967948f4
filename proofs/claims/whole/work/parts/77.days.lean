/-! ===== THE PURE PART: votes, days (written by wip/whole/gen77.py) ===== -/
theorem q_vote_I {T : Nat} {σ τ : k_S} (hm : q_I T σ τ) {r u : Nat} (hr : r < k_Z σ 15) (hu : u < k_Z σ 13) (w : Int32) : q_I T (k_uI σ 9 r u w) (k_uI (k_uI τ 1 0 0 0) 42 r u w) := by
  have hz5 := hm.H.z15
  have hm := hm.th (v := 0)
  refine ⟨q_H_uI hm.H, hm.M.uI (Or.inl (by decide)), q_sc hm.Td (by simp [q_II, q_IJ, q_ID, q_IP, q_In, q_Ia, q_JI, q_JJ, q_JD, q_JP, q_Jn, q_Ja, q_PI, q_PJ, q_PD, q_PP, q_Pn, q_Pa, q_NI, q_NJ, q_ND, q_NP, q_Nn, q_Na, q_ZI, q_ZJ, q_ZD, q_ZP, q_Zn, q_Za]) (by simp [q_II, q_IJ, q_ID, q_IP, q_In, q_Ia, q_JI, q_JJ, q_JD, q_JP, q_Jn, q_Ja, q_PI, q_PJ, q_PD, q_PP, q_Pn, q_Pa, q_NI, q_NJ, q_ND, q_NP, q_Nn, q_Na, q_ZI, q_ZJ, q_ZD, q_ZP, q_Zn, q_Za]) (by simp [q_II, q_IJ, q_ID, q_IP, q_In, q_Ia, q_JI, q_JJ, q_JD, q_JP, q_Jn, q_Ja, q_PI, q_PJ, q_PD, q_PP, q_Pn, q_Pa, q_NI, q_NJ, q_ND, q_NP, q_Nn, q_Na, q_ZI, q_ZJ, q_ZD, q_ZP, q_Zn, q_Za]) (by simp [q_II, q_IJ, q_ID, q_IP, q_In, q_Ia, q_JI, q_JJ, q_JD, q_JP, q_Jn, q_Ja, q_PI, q_PJ, q_PD, q_PP, q_Pn, q_Pa, q_NI, q_NJ, q_ND, q_NP, q_Nn, q_Na, q_ZI, q_ZJ, q_ZD, q_ZP, q_Zn, q_Za]), hm.Ru.ag (fun l hl => by (repeat first | exact q_al.rf | exact q_al.rf.uI (by omega) | refine q_al.uI ?_ (by omega) | refine q_al.uJ ?_ | refine q_al.uP ?_ (by omega) | refine q_al.new ?_ (by omega) | refine q_al.ladd ?_ (by omega))) (fun l hl => by (repeat first | exact q_al.rf | exact q_al.rf.uI (by omega) | refine q_al.uI ?_ (by omega) | refine q_al.uJ ?_ | refine q_al.uP ?_ (by omega) | refine q_al.new ?_ (by omega) | refine q_al.ladd ?_ (by omega))), hm.Us.ag (fun l hl => by (repeat first | exact q_al.rf | exact q_al.rf.uI (by omega) | refine q_al.uI ?_ (by omega) | refine q_al.uJ ?_ | refine q_al.uP ?_ (by omega) | refine q_al.new ?_ (by omega) | refine q_al.ladd ?_ (by omega))) (fun l hl => by (repeat first | exact q_al.rf | exact q_al.rf.uI (by omega) | refine q_al.uI ?_ (by omega) | refine q_al.uJ ?_ | refine q_al.uP ?_ (by omega) | refine q_al.new ?_ (by omega) | refine q_al.ladd ?_ (by omega))), hm.Bo.ag (fun l hl => by (repeat first | exact q_al.rf | exact q_al.rf.uI (by omega) | refine q_al.uI ?_ (by omega) | refine q_al.uJ ?_ | refine q_al.uP ?_ (by omega) | refine q_al.new ?_ (by omega) | refine q_al.ladd ?_ (by omega))) (fun l hl => by (repeat first | exact q_al.rf | exact q_al.rf.uI (by omega) | refine q_al.uI ?_ (by omega) | refine q_al.uJ ?_ | refine q_al.uP ?_ (by omega) | refine q_al.new ?_ (by omega) | refine q_al.ladd ?_ (by omega))), ?_, hm.Re.ag (Nat.le_refl _) (by simp [q_II, q_IJ, q_ID, q_IP, q_In, q_Ia, q_JI, q_JJ, q_JD, q_JP, q_Jn, q_Ja, q_PI, q_PJ, q_PD, q_PP, q_Pn, q_Pa, q_NI, q_NJ, q_ND, q_NP, q_Nn, q_Na, q_ZI, q_ZJ, q_ZD, q_ZP, q_Zn, q_Za]) (by simp [q_II, q_IJ, q_ID, q_IP, q_In, q_Ia, q_JI, q_JJ, q_JD, q_JP, q_Jn, q_Ja, q_PI, q_PJ, q_PD, q_PP, q_Pn, q_Pa, q_NI, q_NJ, q_ND, q_NP, q_Nn, q_Na, q_ZI, q_ZJ, q_ZD, q_ZP, q_Zn, q_Za]) (fun l hl => by (repeat first | exact q_al.rf | exact q_al.rf.uI (by omega) | refine q_al.uI ?_ (by omega) | refine q_al.uJ ?_ | refine q_al.uP ?_ (by omega) | refine q_al.new ?_ (by omega) | refine q_al.ladd ?_ (by omega))) (fun l hl => by (repeat first | exact q_al.rf | exact q_al.rf.uI (by omega) | refine q_al.uI ?_ (by omega) | refine q_al.uJ ?_ | refine q_al.uP ?_ (by omega) | refine q_al.new ?_ (by omega) | refine q_al.ladd ?_ (by omega))), hm.Ro.ag (fun l hl => by (repeat first | exact q_al.rf | exact q_al.rf.uI (by omega) | refine q_al.uI ?_ (by omega) | refine q_al.uJ ?_ | refine q_al.uP ?_ (by omega) | refine q_al.new ?_ (by omega) | refine q_al.ladd ?_ (by omega))), hm.Sn.ag (Nat.le_refl _) (fun l hl => by (repeat first | exact q_al.rf | exact q_al.rf.uI (by omega) | refine q_al.uI ?_ (by omega) | refine q_al.uJ ?_ | refine q_al.uP ?_ (by omega) | refine q_al.new ?_ (by omega) | refine q_al.ladd ?_ (by omega))), hm.Sr.ag (fun l hl => by (repeat first | exact q_al.rf | exact q_al.rf.uI (by omega) | refine q_al.uI ?_ (by omega) | refine q_al.uJ ?_ | refine q_al.uP ?_ (by omega) | refine q_al.new ?_ (by omega) | refine q_al.ladd ?_ (by omega))) (fun l hl => by (repeat first | exact q_al.rf | exact q_al.rf.uI (by omega) | refine q_al.uI ?_ (by omega) | refine q_al.uJ ?_ | refine q_al.uP ?_ (by omega) | refine q_al.new ?_ (by omega) | refine q_al.ladd ?_ (by omega))), hm.Sd.ag (Nat.le_refl _) (by have := hm.Td.2.2.1; omega) (fun l hl => by (repeat first | exact q_al.rf | exact q_al.rf.uI (by omega) | refine q_al.uI ?_ (by omega) | refine q_al.uJ ?_ | refine q_al.uP ?_ (by omega) | refine q_al.new ?_ (by omega) | refine q_al.ladd ?_ (by omega))) (fun l hl => by (repeat first | exact q_al.rf | exact q_al.rf.uI (by omega) | refine q_al.uI ?_ (by omega) | refine q_al.uJ ?_ | refine q_al.uP ?_ (by omega) | refine q_al.new ?_ (by omega) | refine q_al.ladd ?_ (by omega))), hm.Sj.ag (fun l hl => by (repeat first | exact q_al.rf | exact q_al.rf.uI (by omega) | refine q_al.uI ?_ (by omega) | refine q_al.uJ ?_ | refine q_al.uP ?_ (by omega) | refine q_al.new ?_ (by omega) | refine q_al.ladd ?_ (by omega))) (by simp [q_II, q_IJ, q_ID, q_IP, q_In, q_Ia, q_JI, q_JJ, q_JD, q_JP, q_Jn, q_Ja, q_PI, q_PJ, q_PD, q_PP, q_Pn, q_Pa, q_NI, q_NJ, q_ND, q_NP, q_Nn, q_Na, q_ZI, q_ZJ, q_ZD, q_ZP, q_Zn, q_Za]), hm.Ct.ag (by simp [q_II, q_IJ, q_ID, q_IP, q_In, q_Ia, q_JI, q_JJ, q_JD, q_JP, q_Jn, q_Ja, q_PI, q_PJ, q_PD, q_PP, q_Pn, q_Pa, q_NI, q_NJ, q_ND, q_NP, q_Nn, q_Na, q_ZI, q_ZJ, q_ZD, q_ZP, q_Zn, q_Za]) (by simp [q_II, q_IJ, q_ID, q_IP, q_In, q_Ia, q_JI, q_JJ, q_JD, q_JP, q_Jn, q_Ja, q_PI, q_PJ, q_PD, q_PP, q_Pn, q_Pa, q_NI, q_NJ, q_ND, q_NP, q_Nn, q_Na, q_ZI, q_ZJ, q_ZD, q_ZP, q_Zn, q_Za]) (by simp [q_II, q_IJ, q_ID, q_IP, q_In, q_Ia, q_JI, q_JJ, q_JD, q_JP, q_Jn, q_Ja, q_PI, q_PJ, q_PD, q_PP, q_Pn, q_Pa, q_NI, q_NJ, q_ND, q_NP, q_Nn, q_Na, q_ZI, q_ZJ, q_ZD, q_ZP, q_Zn, q_Za]) (fun l hl => by (repeat first | exact q_al.rf | exact q_al.rf.uI (by omega) | refine q_al.uI ?_ (by omega) | refine q_al.uJ ?_ | refine q_al.uP ?_ (by omega) | refine q_al.new ?_ (by omega) | refine q_al.ladd ?_ (by omega))), hm.De.ag (fun l hl => by (repeat first | exact q_al.rf | exact q_al.rf.uI (by omega) | refine q_al.uI ?_ (by omega) | refine q_al.uJ ?_ | refine q_al.uP ?_ (by omega) | refine q_al.new ?_ (by omega) | refine q_al.ladd ?_ (by omega))) (by simp [q_II, q_IJ, q_ID, q_IP, q_In, q_Ia, q_JI, q_JJ, q_JD, q_JP, q_Jn, q_Ja, q_PI, q_PJ, q_PD, q_PP, q_Pn, q_Pa, q_NI, q_NJ, q_ND, q_NP, q_Nn, q_Na, q_ZI, q_ZJ, q_ZD, q_ZP, q_Zn, q_Za]) (fun l hl => by (repeat first | exact q_al.rf | exact q_al.rf.uI (by omega) | refine q_al.uI ?_ (by omega) | refine q_al.uJ ?_ | refine q_al.uP ?_ (by omega) | refine q_al.new ?_ (by omega) | refine q_al.ladd ?_ (by omega))), hm.Mi.ag (fun l hl => by (repeat first | exact q_al.rf | exact q_al.rf.uI (by omega) | refine q_al.uI ?_ (by omega) | refine q_al.uJ ?_ | refine q_al.uP ?_ (by omega) | refine q_al.new ?_ (by omega) | refine q_al.ladd ?_ (by omega)))⟩
  intro i j hi hj
  have h0 := hm.Vo i j hi hj
  have x1 : k_I (k_uI σ 9 r u w) 9 i j = if i = r ∧ j = u then w else k_I σ 9 i j := by simp [q_II, q_IJ, q_ID, q_IP, q_In, q_Ia, q_JI, q_JJ, q_JD, q_JP, q_Jn, q_Ja, q_PI, q_PJ, q_PD, q_PP, q_Pn, q_Pa, q_NI, q_NJ, q_ND, q_NP, q_Nn, q_Na, q_ZI, q_ZJ, q_ZD, q_ZP, q_Zn, q_Za]
  have x2 : k_I (k_uI (k_uI τ 1 0 0 0) 42 r u w) 42 i j = if i = r ∧ j = u then w else k_I (k_uI τ 1 0 0 0) 42 i j := by simp [q_II, q_IJ, q_ID, q_IP, q_In, q_Ia, q_JI, q_JJ, q_JD, q_JP, q_Jn, q_Ja, q_PI, q_PJ, q_PD, q_PP, q_Pn, q_Pa, q_NI, q_NJ, q_ND, q_NP, q_Nn, q_Na, q_ZI, q_ZJ, q_ZD, q_ZP, q_Zn, q_Za]
  rw [x1, x2, q_ZI, q_ZI]
  by_cases q : i = r ∧ j = u
  · rw [if_pos q, if_pos q]
    exact ⟨fun _ => rfl, fun z => by omega⟩
  · rw [if_neg q, if_neg q]
    exact h0
theorem q_enterVote {σ : k_S} {r u : Nat} (hp : k_P σ 5 r 6 = some r) (hu : u < 8) (w : Int32) : f_X2_enterVote σ r (nI u) w = some ((), k_uI σ 9 r u w) := by
  have k8 : ¬ (8 : Int32) ≤ nI u := nI_ge (b := 8) hu (by omega)
  unfold f_X2_enterVote
  rw [if_neg (nI_pos (by omega)), hp, Option.bind_some, if_neg k8, if_pos (of_eq_true (q_g hu (by omega))), q_c (by omega)]
theorem g_vote {T : Nat} {σ : k_S} (hI : q_I T σ σ) (x y g : Int32) : q_Ok (f_L_vote σ 0 x y g 0) (fun τ => f_X8_vote τ 0 x y g) := by
  have hz5 := hI.H.z15
  have hz3 := hI.H.z13
  rcases q_ix x (n := k_Z σ 15) (by omega) with ⟨r, hr, rfl⟩ | hx
  rotate_left
  · refine q_exc hI (k := 1) (b := 0) (by decide) ?_ ?_
    · unfold f_L_vote f_X7_vote
      rw [q_reportAtb hI.H hx]
      simp [k_bc, k_bt]
    · show f_X8_vote σ 0 x y g = _
      have h' := hI.th (v := 0)
      unfold f_X8_vote
      rw [q_isReportb h'.M hx, Option.bind_some, if_pos rfl, q_fails]
      rfl
  rcases q_ix y (n := k_Z σ 13) (by omega) with ⟨u, hu, rfl⟩ | hy
  rotate_left
  · refine q_exc hI (k := 1) (b := 0) (by decide) ?_ ?_
    · unfold f_L_vote f_X7_vote
      rw [q_reportAt hI.H hr]
      simp only [k_bc, k_bt]
      rw [q_userAtb hI.H hy]
      simp
    · show f_X8_vote σ 0 (nI r) y g = _
      have h' := hI.th (v := 0)
      unfold f_X8_vote
      rw [q_isReport h'.M hr, Option.bind_some, if_neg (by decide), q_isUserb h'.M hy, Option.bind_some, if_pos rfl, q_fails]
      rfl
  have g20 : 0 ≤ nI r ∧ (nI r).toNatClampNeg < 20 := of_eq_true (q_g (by omega) (by omega))
  have g20' : 0 ≤ nI r ∧ r < 20 := q_g1 (by omega) (by omega)
  have g8 : 0 ≤ nI u ∧ (nI u).toNatClampNeg < 8 := of_eq_true (q_g (by omega) (by omega))
  have st := hI.st hr
  obtain ⟨p1, hp1, P1, M1⟩ := (hI.rp hr).2.1
  obtain ⟨p2, hp2, P2, M2⟩ := (hI.rp hr).2.2.1
  by_cases hs : k_I σ 38 0 r = 100
  · refine q_exc hI (k := 2) (b := 0) (by decide) ?_ ?_
    · unfold f_L_vote f_X7_vote f_X7_requireUndecided
      rw [q_reportAt hI.H hr]
      simp only [k_bc, k_bt]
      rw [q_userAt hI.H hu]
      simp only
      rw [st.1, if_pos hs]
      simp
    · show f_X8_vote σ 0 (nI r) (nI u) g = _
      have h' := hI.th (v := 0)
      unfold f_X8_vote
      rw [q_isReport h'.M hr, Option.bind_some, if_neg (by decide), q_isUser h'.M hu, Option.bind_some, if_neg (by decide), hI.M.q.2.2.2.2.2.2.2.2.2.1, Option.bind_some, if_pos g20, q_c (n := r) (by omega), if_pos hs, q_fails]
      rfl
  have n1 : nI u = k_I σ 29 0 r ↔ u = p1 := by rw [M1, nI_eq (by omega) (by omega)]
  have n2 : nI u = k_I σ 30 0 r ↔ u = p2 := by rw [M2, nI_eq (by omega) (by omega)]
  by_cases e1 : u = p1
  · refine q_exc hI (k := 3) (b := 0) (by decide) ?_ ?_
    · unfold f_L_vote f_X7_vote f_X7_requireUndecided
      rw [q_reportAt hI.H hr]
      simp only [k_bc, k_bt]
      rw [q_userAt hI.H hu]
      simp only
      rw [st.1, if_neg hs]
      simp only
      rw [P1, Option.bind_some, if_pos e1]
      simp
    · show f_X8_vote σ 0 (nI r) (nI u) g = _
      have h' := hI.th (v := 0)
      unfold f_X8_vote
      rw [q_isReport h'.M hr, Option.bind_some, if_neg (by decide), q_isUser h'.M hu, Option.bind_some, if_neg (by decide), hI.M.q.2.2.2.2.2.2.2.2.2.1, Option.bind_some, if_pos g20, q_c (n := r) (by omega), if_neg hs, hI.M.q.1, Option.bind_some, if_pos g20', if_pos (n1.mpr e1), q_fails]
      rfl
  by_cases e2 : u = p2
  · refine q_exc hI (k := 3) (b := 0) (by decide) ?_ ?_
    · unfold f_L_vote f_X7_vote f_X7_requireUndecided
      rw [q_reportAt hI.H hr]
      simp only [k_bc, k_bt]
      rw [q_userAt hI.H hu]
      simp only
      rw [st.1, if_neg hs]
      simp only
      rw [P1, Option.bind_some, if_neg e1, P2, Option.bind_some, if_pos e2]
      simp
    · show f_X8_vote σ 0 (nI r) (nI u) g = _
      have h' := hI.th (v := 0)
      unfold f_X8_vote
      rw [q_isReport h'.M hr, Option.bind_some, if_neg (by decide), q_isUser h'.M hu, Option.bind_some, if_neg (by decide), hI.M.q.2.2.2.2.2.2.2.2.2.1, Option.bind_some, if_pos g20, q_c (n := r) (by omega), if_neg hs, hI.M.q.1, Option.bind_some, if_pos g20', if_neg (fun q => e1 (n1.mp q)), hI.M.q.2.1, Option.bind_some, if_pos g20', if_pos (n2.mpr e2), q_fails]
      rfl
  have bS := q_sN_le (f := q_f1 T σ u) (b := 1) (n := k_Z σ 16) (fun i hi => by unfold q_f1; split <;> omega)
  have hz6 := hI.H.z16
  by_cases e3 : ¬ (q_sN (q_f1 T σ u) (k_Z σ 16) = 0)
  · have nle : ¬ nI (q_sN (q_f1 T σ u) (k_Z σ 16)) ≤ 0 := nI_nle (by omega) (by omega)
    refine q_exc hI (k := 3) (b := 0) (by decide) ?_ ?_
    · unfold f_L_vote f_X7_vote f_X7_requireUndecided
      rw [q_reportAt hI.H hr]
      simp only [k_bc, k_bt]
      rw [q_userAt hI.H hu]
      simp only
      rw [st.1, if_neg hs]
      simp only
      rw [P1, Option.bind_some, if_neg e1, P2, Option.bind_some, if_neg e2, hI.pres, Option.bind_some, if_neg nle]
      simp
    · show f_X8_vote σ 0 (nI r) (nI u) g = _
      have h' := hI.th (v := 0)
      unfold f_X8_vote
      rw [q_isReport h'.M hr, Option.bind_some, if_neg (by decide), q_isUser h'.M hu, Option.bind_some, if_neg (by decide), hI.M.q.2.2.2.2.2.2.2.2.2.1, Option.bind_some, if_pos g20, q_c (n := r) (by omega), if_neg hs, hI.M.q.1, Option.bind_some, if_pos g20', if_neg (fun q => e1 (n1.mp q)), hI.M.q.2.1, Option.bind_some, if_pos g20', if_neg (fun q => e2 (n2.mp q)), h'.mpres (by omega), Option.bind_some, if_neg nle, q_fails]
      rfl
  replace e3 := Classical.not_not.mp e3
  have le0 : nI (q_sN (q_f1 T σ u) (k_Z σ 16)) ≤ 0 := by rw [e3]; decide
  -- the vote itself
  have go : ∀ w : Int32, (∀ τ, q_I T σ τ → (if g = 0 then -(k_I τ 25 0 u) else k_I τ 25 0 u) = w) → (if g = 0 then -(k_I σ 3 u 0) else k_I σ 3 u 0) = w → q_Ok (f_L_vote σ 0 (nI r) (nI u) g 0) (fun τ => f_X8_vote τ 0 (nI r) (nI u) g) := fun w hw1 hw2 => by
    refine q_mut (H := k_uI σ 9 r u w) (v := q_sI (fun i => if (k_I (k_uI σ 9 r u w) 9 r i) < 0 then 0 else (k_I (k_uI σ 9 r u w) 9 r i)) 8 + q_sI (fun i => if (-(k_I (k_uI σ 9 r u w) 9 r i)) < 0 then 0 else (-(k_I (k_uI σ 9 r u w) 9 r i))) 8) (Mu := fun τ => k_uI (k_uI τ 1 0 0 0) 42 r u w) (T' := T) hI ?_ (q_sm.rf.uI (by omega)) (fun τ hm => ?_) (fun τ => ?_) (fun τ => rfl) (fun τ => (q_sh.rf.uI (by omega)).uI (by omega)) (fun τ hm => q_vote_I hm hr hu w)
    · have hp6 : k_P (k_uI σ 9 r u w) 5 r 6 = some r := hI.p6 hr
      unfold f_L_vote f_X7_vote f_X7_requireUndecided
      rw [q_reportAt hI.H hr]
      simp only [k_bc, k_bt]
      rw [q_userAt hI.H hu]
      simp only
      rw [st.1, if_neg hs]
      simp only
      rw [P1, Option.bind_some, if_neg e1, P2, Option.bind_some, if_neg e2, hI.pres, Option.bind_some, if_pos le0]
      by_cases q : g = 0
      · rw [if_pos q] at hw2 ⊢
        rw [hw2, q_enterVote (hI.p6 hr) (by omega), Option.bind_some, q_sumFor hp6, Option.bind_some, q_sumAgainst hp6, Option.bind_some]
      · rw [if_neg q] at hw2 ⊢
        rw [hw2, q_enterVote (hI.p6 hr) (by omega), Option.bind_some, q_sumFor hp6, Option.bind_some, q_sumAgainst hp6, Option.bind_some]
    · show f_X8_vote τ 0 (nI r) (nI u) g = _
      have h' := hm.th (v := 0)
      have hp := q_vote_I hm hr hu w
      have st2 : ¬ k_I τ 38 0 r = 100 := by rw [← (hm.st hr).1, st.1]; exact hs
      have m1 : ¬ nI u = k_I τ 29 0 r := fun q => by
        obtain ⟨p, -, Q1, Q2⟩ := (hm.rp hr).2.1
        rw [P1] at Q1
        cases Q1
        rw [Q2] at q
        exact e1 ((nI_eq (by omega) (by omega)).mp q)
      have m2 : ¬ nI u = k_I τ 30 0 r := fun q => by
        obtain ⟨p, -, Q1, Q2⟩ := (hm.rp hr).2.2.1
        rw [P2] at Q1
        cases Q1
        rw [Q2] at q
        exact e2 ((nI_eq (by omega) (by omega)).mp q)
      have w1 := hp.w1 (r := r) hr
      have w2 := hp.w2 (r := r) hr
      have hwt := hw1 τ hm
      unfold f_X8_vote
      rw [q_isReport h'.M hr, Option.bind_some, if_neg (by decide), q_isUser h'.M hu, Option.bind_some, if_neg (by decide), hm.M.q.2.2.2.2.2.2.2.2.2.1, Option.bind_some, if_pos g20, q_c (n := r) (by omega), if_neg st2, hm.M.q.1, Option.bind_some, if_pos g20', if_neg m1, hm.M.q.2.1, Option.bind_some, if_pos g20', if_neg m2, h'.mpres (by omega), Option.bind_some, if_pos le0, hm.M.q.2.2.2.2.2.2.2.2.2.2.2.2, Option.bind_some, if_pos g20', hm.M.row (by omega), Option.bind_some, hm.M.p.2.2.2.2.2.1, Option.bind_some, if_pos g8, if_pos g8, Option.bind_some, if_pos g8, if_pos g8, q_c (n := u) (by omega)]
      by_cases q : g = 0
      · rw [if_pos q] at hwt ⊢
        rw [hwt, q_weight hp.M (by omega), Option.bind_some, q_weight hp.M (by omega), Option.bind_some, w1, w2]
      · rw [if_neg q] at hwt ⊢
        rw [hwt, q_weight hp.M (by omega), Option.bind_some, q_weight hp.M (by omega), Option.bind_some, w1, w2]
    · rw [q_thr0 _ (by omega), q_thr1]
  exact go (if g = 0 then -(k_I σ 3 u 0) else k_I σ 3 u 0) (fun τ hm => by rw [hm.Us u hu]) rfl
/-! days -/
theorem q_eNb {T : Nat} {a : k_S} (h : q_Sn T a) {j : Nat} (hj : j < k_Z a 16) : ∃ s, k_I a 6 j 1 = nI s ∧ s ≤ q_eN a j ∧ s ≤ T ∧ q_eN a j ≤ 1060 ∧ k_I a 6 j 2 = nI (q_eN a j) := by
  obtain ⟨u, s, e, h1, h2, h3, h4, h5, h6⟩ := h j hj
  have : q_eN a j = e := by unfold q_eN; rw [h3, q_c (by omega)]
  exact ⟨s, h2, by omega, h5, by omega, by rw [this]; exact h3⟩
theorem q_sJ_N {f : Nat → Nat} : ∀ {n : Nat}, q_sJ (fun i => lN (f i)) n = lN (q_sN f n)
  | 0 => rfl
  | n + 1 => by
    show q_sJ (fun i => lN (f i)) n + lN (f n) = lN (q_sN f n + f n)
    rw [q_sJ_N, q_l_add]
theorem q_I.day1 {T : Nat} {a m : k_S} (h : q_I T a m) {t : Nat} (ht : T ≤ t) (ht2 : t ≤ 2000) : q_sJ (q_n1 m (nI t)) (k_Z a 15) = lN (q_sN (fun j => if t < q_eN a j then 1 else 0) (k_Z a 16)) := by
  have e : q_sN (fun j => if t < q_eN a j then 1 else 0) (k_Z a 16) = q_sN (fun r => if k_I m 38 0 r = 100 ∧ k_I m 39 0 r = 103 then (if t < q_eN a (q_cu a r) then 1 else 0) else 0) (k_Z a 15) :=
    h.Sd _ q_cm_n _ (fun j hj hd => if_neg (fun q => q_f1_0 h.Sn hj hd h.Td.2.2.1 (by omega)))
  rw [e, ← q_sJ_N]
  refine q_fd_c (fun r hr => ?_)
  show q_n1 m (nI t) r = lN (if k_I m 38 0 r = 100 ∧ k_I m 39 0 r = 103 then (if t < q_eN a (q_cu a r) then 1 else 0) else 0)
  unfold q_n1
  rw [h.miE hr ht (by omega)]
  split
  · split <;> rfl
  · rfl
theorem q_I.day2 {T : Nat} {a m : k_S} (h : q_I T a m) {t : Nat} (ht : T ≤ t) (ht2 : t ≤ 2000) : q_sI (q_n2 m (nI t)) (k_Z a 15) = nI (q_sN (fun j => if q_eN a j = t + 1 then 1 else 0) (k_Z a 16)) := by
  have e : q_sN (fun j => if q_eN a j = t + 1 then 1 else 0) (k_Z a 16) = q_sN (fun r => if k_I m 38 0 r = 100 ∧ k_I m 39 0 r = 103 then (if q_eN a (q_cu a r) = t + 1 then 1 else 0) else 0) (k_Z a 15) :=
    h.Sd _ q_cm_n _ (fun j hj hd => if_neg (fun q => q_f1_0 h.Sn hj hd h.Td.2.2.1 (by omega)))
  rw [e, ← q_sI_N]
  refine q_fd_c (fun r hr => ?_)
  show q_n2 m (nI t) r = nI (if k_I m 38 0 r = 100 ∧ k_I m 39 0 r = 103 then (if q_eN a (q_cu a r) = t + 1 then 1 else 0) else 0)
  unfold q_n2
  rw [h.miE hr ht (by omega)]
  by_cases hg : k_I m 38 0 r = 100 ∧ k_I m 39 0 r = 103
  · obtain ⟨o1, -, o3⟩ := h.own hr (by omega : 0 < 8) hg
    obtain ⟨s, -, -, -, b1, -⟩ := q_eNb h.Sn o1
    rw [if_pos hg, if_pos hg, o3, nI_1]
    by_cases q : t < q_eN a (q_cu a r)
    · rw [if_pos q, if_neg q_10]
      by_cases q2 : q_eN a (q_cu a r) = t + 1
      · rw [if_pos q2, if_pos (by rw [q2])]; rfl
      · rw [if_neg q2, if_neg (fun z => q2 ((nI_eq (by omega) (by omega)).mp z))]; rfl
    · rw [if_neg q, if_pos rfl, if_neg (by omega)]; rfl
  · rw [if_neg hg, if_neg hg, if_pos rfl]; rfl
theorem q_I.days {T : Nat} {a m : k_S} (h : q_I T a m) : ∀ n, n ≤ 100 → k_J m 1 0 32 + q_sJ (fun i => q_sJ (q_n1 m (nI (T + i))) (k_Z a 15)) n = lN (q_sN (q_dy (T + n) a) (k_Z a 16))
  | 0, _ => by
    rw [show k_J m 1 0 32 + q_sJ (fun i => q_sJ (q_n1 m (nI (T + i))) (k_Z a 15)) 0 = k_J m 1 0 32 from Int64.add_zero _]
    exact h.Sj
  | n + 1, hn => by
    have hT := h.Td.2.2.1
    show k_J m 1 0 32 + (q_sJ (fun i => q_sJ (q_n1 m (nI (T + i))) (k_Z a 15)) n + q_sJ (q_n1 m (nI (T + n))) (k_Z a 15)) = _
    rw [← Int64.add_assoc, h.days n (by omega), h.day1 (by omega) (by omega), q_l_add]
    refine congrArg lN ?_
    rw [show q_sN (q_dy (T + n) a) (k_Z a 16) + q_sN (fun j => if T + n < q_eN a j then 1 else 0) (k_Z a 16) = q_sN (fun j => q_dy (T + n) a j + (if T + n < q_eN a j then 1 else 0)) (k_Z a 16) from (q_fd_op q_cm_n).symm]
    refine q_fd_c (fun j hj => ?_)
    obtain ⟨s, s1, s2, s3, s4, s5⟩ := q_eNb h.Sn hj
    show q_dy (T + n) a j + (if T + n < q_eN a j then 1 else 0) = q_dy (T + (n + 1)) a j
    unfold q_dy
    rw [s1, s5, q_c (by omega), q_c (by omega)]
    by_cases q : T + n < q_eN a j
    · rw [if_pos q, Nat.min_eq_right (by omega), Nat.min_eq_right (by omega)]; omega
    · rw [if_neg q, Nat.min_eq_left (by omega), Nat.min_eq_left (by omega), Nat.add_zero]
theorem q_I.laps {T : Nat} {a m : k_S} (h : q_I T a m) : ∀ n, n ≤ 100 → q_sI (fun i => q_sI (q_n2 m (nI (T + i))) (k_Z a 15)) n = nI (q_sN (fun j => if T < q_eN a j ∧ q_eN a j ≤ T + n then 1 else 0) (k_Z a 16))
  | 0, _ => by
    have : q_sN (fun j => if T < q_eN a j ∧ q_eN a j ≤ T + 0 then 1 else 0) (k_Z a 16) = 0 := q_fd_z q_cm_n (fun j _ => if_neg (by omega))
    rw [this]
    rfl
  | n + 1, hn => by
    have hT := h.Td.2.2.1
    show q_sI (fun i => q_sI (q_n2 m (nI (T + i))) (k_Z a 15)) n + q_sI (q_n2 m (nI (T + n))) (k_Z a 15) = _
    rw [h.laps n (by omega), h.day2 (by omega) (by omega), nI_add]
    refine congrArg nI ?_
    rw [show q_sN (fun j => if T < q_eN a j ∧ q_eN a j ≤ T + n then 1 else 0) (k_Z a 16) + q_sN (fun j => if q_eN a j = T + n + 1 then 1 else 0) (k_Z a 16) = q_sN (fun j => (if T < q_eN a j ∧ q_eN a j ≤ T + n then 1 else 0) + (if q_eN a j = T + n + 1 then 1 else 0)) (k_Z a 16) from (q_fd_op q_cm_n).symm]
    refine q_fd_c (fun j hj => ?_)
    show (if T < q_eN a j ∧ q_eN a j ≤ T + n then 1 else 0) + (if q_eN a j = T + n + 1 then 1 else 0) = if T < q_eN a j ∧ q_eN a j ≤ T + (n + 1) then 1 else 0
    split <;> split <;> split <;> omega
theorem g_pass {T : Nat} {σ : k_S} (hI : q_I T σ σ) (d : Int32) : q_Ok (f_L_pass σ 0 d 0) (fun τ => f_X8_pass τ 0 d) := by
  have hT := hI.Td.2.2.1
  have hz5 := hI.H.z15
  by_cases hd : ¬ q_rw d 1 100
  · refine q_exc hI (k := 1) (b := 0) (by decide) ?_ ?_
    · unfold f_L_pass f_X7_pass
      rw [(q_rwb σ hd).1]
      simp [k_bc, k_bt]
    · show f_X8_pass σ 0 d = _
      unfold f_X8_pass
      rw [(q_rwb σ hd).2, Option.bind_some, if_pos rfl, q_fails]
      rfl
  replace hd := Classical.not_not.mp hd
  obtain ⟨n, n1, n2, rfl⟩ := q_rwI (na := 1) (nb := 100) rfl (by decide) (by omega) hd (by decide)
  have le1 : nI T + nI n ≤ 1000 ↔ T + n ≤ 1000 := by
    rw [nI_add]
    exact nI_leI (b := 1000) (by omega) (by omega)
  by_cases hd2 : T + n ≤ 1000
  · have pair : ∀ τ, q_I T σ τ → q_I (T + n) (k_uI σ 0 0 8 (nI (T + n))) (q_day (k_uI τ 1 0 0 0) (nI (T + n)) (k_J τ 1 0 32 + q_sJ (fun i => q_sJ (q_n1 τ (nI (T + i))) (k_Z σ 15)) n)) := fun τ hm => by
      have hm := hm.th (v := 0)
      unfold q_day
      refine ⟨q_H_uI hm.H, hm.M.uJ.uI (Or.inr (by decide)), ?_, hm.Ru.ag (fun l hl => by (repeat first | exact q_al.rf | exact q_al.rf.uI (by omega) | refine q_al.uI ?_ (by omega) | refine q_al.uJ ?_ | refine q_al.uP ?_ (by omega) | refine q_al.new ?_ (by omega) | refine q_al.ladd ?_ (by omega))) (fun l hl => by (repeat first | exact q_al.rf | exact q_al.rf.uI (by omega) | refine q_al.uI ?_ (by omega) | refine q_al.uJ ?_ | refine q_al.uP ?_ (by omega) | refine q_al.new ?_ (by omega) | refine q_al.ladd ?_ (by omega))), hm.Us.ag (fun l hl => by (repeat first | exact q_al.rf | exact q_al.rf.uI (by omega) | refine q_al.uI ?_ (by omega) | refine q_al.uJ ?_ | refine q_al.uP ?_ (by omega) | refine q_al.new ?_ (by omega) | refine q_al.ladd ?_ (by omega))) (fun l hl => by (repeat first | exact q_al.rf | exact q_al.rf.uI (by omega) | refine q_al.uI ?_ (by omega) | refine q_al.uJ ?_ | refine q_al.uP ?_ (by omega) | refine q_al.new ?_ (by omega) | refine q_al.ladd ?_ (by omega))), hm.Bo.ag (fun l hl => by (repeat first | exact q_al.rf | exact q_al.rf.uI (by omega) | refine q_al.uI ?_ (by omega) | refine q_al.uJ ?_ | refine q_al.uP ?_ (by omega) | refine q_al.new ?_ (by omega) | refine q_al.ladd ?_ (by omega))) (fun l hl => by (repeat first | exact q_al.rf | exact q_al.rf.uI (by omega) | refine q_al.uI ?_ (by omega) | refine q_al.uJ ?_ | refine q_al.uP ?_ (by omega) | refine q_al.new ?_ (by omega) | refine q_al.ladd ?_ (by omega))), hm.Vo.ag (fun l hl => by (repeat first | exact q_al.rf | exact q_al.rf.uI (by omega) | refine q_al.uI ?_ (by omega) | refine q_al.uJ ?_ | refine q_al.uP ?_ (by omega) | refine q_al.new ?_ (by omega) | refine q_al.ladd ?_ (by omega))) (fun l hl => by (repeat first | exact q_al.rf | exact q_al.rf.uI (by omega) | refine q_al.uI ?_ (by omega) | refine q_al.uJ ?_ | refine q_al.uP ?_ (by omega) | refine q_al.new ?_ (by omega) | refine q_al.ladd ?_ (by omega))), hm.Re.ag (by omega) (by simp [q_II, q_IJ, q_ID, q_IP, q_In, q_Ia, q_JI, q_JJ, q_JD, q_JP, q_Jn, q_Ja, q_PI, q_PJ, q_PD, q_PP, q_Pn, q_Pa, q_NI, q_NJ, q_ND, q_NP, q_Nn, q_Na, q_ZI, q_ZJ, q_ZD, q_ZP, q_Zn, q_Za]) (by simp [q_II, q_IJ, q_ID, q_IP, q_In, q_Ia, q_JI, q_JJ, q_JD, q_JP, q_Jn, q_Ja, q_PI, q_PJ, q_PD, q_PP, q_Pn, q_Pa, q_NI, q_NJ, q_ND, q_NP, q_Nn, q_Na, q_ZI, q_ZJ, q_ZD, q_ZP, q_Zn, q_Za]) (fun l hl => by (repeat first | exact q_al.rf | exact q_al.rf.uI (by omega) | refine q_al.uI ?_ (by omega) | refine q_al.uJ ?_ | refine q_al.uP ?_ (by omega) | refine q_al.new ?_ (by omega) | refine q_al.ladd ?_ (by omega))) (fun l hl => by (repeat first | exact q_al.rf | exact q_al.rf.uI (by omega) | refine q_al.uI ?_ (by omega) | refine q_al.uJ ?_ | refine q_al.uP ?_ (by omega) | refine q_al.new ?_ (by omega) | refine q_al.ladd ?_ (by omega))), hm.Ro.ag (fun l hl => by (repeat first | exact q_al.rf | exact q_al.rf.uI (by omega) | refine q_al.uI ?_ (by omega) | refine q_al.uJ ?_ | refine q_al.uP ?_ (by omega) | refine q_al.new ?_ (by omega) | refine q_al.ladd ?_ (by omega))), hm.Sn.ag (by omega) (fun l hl => by (repeat first | exact q_al.rf | exact q_al.rf.uI (by omega) | refine q_al.uI ?_ (by omega) | refine q_al.uJ ?_ | refine q_al.uP ?_ (by omega) | refine q_al.new ?_ (by omega) | refine q_al.ladd ?_ (by omega))), hm.Sr.ag (fun l hl => by (repeat first | exact q_al.rf | exact q_al.rf.uI (by omega) | refine q_al.uI ?_ (by omega) | refine q_al.uJ ?_ | refine q_al.uP ?_ (by omega) | refine q_al.new ?_ (by omega) | refine q_al.ladd ?_ (by omega))) (fun l hl => by (repeat first | exact q_al.rf | exact q_al.rf.uI (by omega) | refine q_al.uI ?_ (by omega) | refine q_al.uJ ?_ | refine q_al.uP ?_ (by omega) | refine q_al.new ?_ (by omega) | refine q_al.ladd ?_ (by omega))), hm.Sd.ag (by omega) (by omega) (fun l hl => by (repeat first | exact q_al.rf | exact q_al.rf.uI (by omega) | refine q_al.uI ?_ (by omega) | refine q_al.uJ ?_ | refine q_al.uP ?_ (by omega) | refine q_al.new ?_ (by omega) | refine q_al.ladd ?_ (by omega))) (fun l hl => by (repeat first | exact q_al.rf | exact q_al.rf.uI (by omega) | refine q_al.uI ?_ (by omega) | refine q_al.uJ ?_ | refine q_al.uP ?_ (by omega) | refine q_al.new ?_ (by omega) | refine q_al.ladd ?_ (by omega))), ?_, hm.Ct.ag (by simp [q_II, q_IJ, q_ID, q_IP, q_In, q_Ia, q_JI, q_JJ, q_JD, q_JP, q_Jn, q_Ja, q_PI, q_PJ, q_PD, q_PP, q_Pn, q_Pa, q_NI, q_NJ, q_ND, q_NP, q_Nn, q_Na, q_ZI, q_ZJ, q_ZD, q_ZP, q_Zn, q_Za]) (by simp [q_II, q_IJ, q_ID, q_IP, q_In, q_Ia, q_JI, q_JJ, q_JD, q_JP, q_Jn, q_Ja, q_PI, q_PJ, q_PD, q_PP, q_Pn, q_Pa, q_NI, q_NJ, q_ND, q_NP, q_Nn, q_Na, q_ZI, q_ZJ, q_ZD, q_ZP, q_Zn, q_Za]) (by simp [q_II, q_IJ, q_ID, q_IP, q_In, q_Ia, q_JI, q_JJ, q_JD, q_JP, q_Jn, q_Ja, q_PI, q_PJ, q_PD, q_PP, q_Pn, q_Pa, q_NI, q_NJ, q_ND, q_NP, q_Nn, q_Na, q_ZI, q_ZJ, q_ZD, q_ZP, q_Zn, q_Za]) (fun l hl => by (repeat first | exact q_al.rf | exact q_al.rf.uI (by omega) | refine q_al.uI ?_ (by omega) | refine q_al.uJ ?_ | refine q_al.uP ?_ (by omega) | refine q_al.new ?_ (by omega) | refine q_al.ladd ?_ (by omega))), hm.De.ag (fun l hl => by (repeat first | exact q_al.rf | exact q_al.rf.uI (by omega) | refine q_al.uI ?_ (by omega) | refine q_al.uJ ?_ | refine q_al.uP ?_ (by omega) | refine q_al.new ?_ (by omega) | refine q_al.ladd ?_ (by omega))) (by simp [q_II, q_IJ, q_ID, q_IP, q_In, q_Ia, q_JI, q_JJ, q_JD, q_JP, q_Jn, q_Ja, q_PI, q_PJ, q_PD, q_PP, q_Pn, q_Pa, q_NI, q_NJ, q_ND, q_NP, q_Nn, q_Na, q_ZI, q_ZJ, q_ZD, q_ZP, q_Zn, q_Za]) (fun l hl => by (repeat first | exact q_al.rf | exact q_al.rf.uI (by omega) | refine q_al.uI ?_ (by omega) | refine q_al.uJ ?_ | refine q_al.uP ?_ (by omega) | refine q_al.new ?_ (by omega) | refine q_al.ladd ?_ (by omega))), hm.Mi.ag (fun l hl => by (repeat first | exact q_al.rf | exact q_al.rf.uI (by omega) | refine q_al.uI ?_ (by omega) | refine q_al.uJ ?_ | refine q_al.uP ?_ (by omega) | refine q_al.new ?_ (by omega) | refine q_al.ladd ?_ (by omega)))⟩
      · obtain ⟨t1, t2, t3, t4⟩ := hm.Td
        refine ⟨by simp [q_II, q_IJ, q_ID, q_IP, q_In, q_Ia, q_JI, q_JJ, q_JD, q_JP, q_Jn, q_Ja, q_PI, q_PJ, q_PD, q_PP, q_Pn, q_Pa, q_NI, q_NJ, q_ND, q_NP, q_Nn, q_Na, q_ZI, q_ZJ, q_ZD, q_ZP, q_Zn, q_Za], by simp [q_II, q_IJ, q_ID, q_IP, q_In, q_Ia, q_JI, q_JJ, q_JD, q_JP, q_Jn, q_Ja, q_PI, q_PJ, q_PD, q_PP, q_Pn, q_Pa, q_NI, q_NJ, q_ND, q_NP, q_Nn, q_Na, q_ZI, q_ZJ, q_ZD, q_ZP, q_Zn, q_Za], hd2, ?_⟩
        simp [q_II, q_IJ, q_ID, q_IP, q_In, q_Ia, q_JI, q_JJ, q_JD, q_JP, q_Jn, q_Ja, q_PI, q_PJ, q_PD, q_PP, q_Pn, q_Pa, q_NI, q_NJ, q_ND, q_NP, q_Nn, q_Na, q_ZI, q_ZJ, q_ZD, q_ZP, q_Zn, q_Za] at t4 ⊢
        exact t4
      · unfold q_Sj
        rw [q_JI, q_JJ, if_pos ⟨rfl, rfl, rfl⟩, q_ZI]
        have := hm.days n n2
        rw [q_JI] at this
        refine Eq.trans this (congrArg lN (q_fd_c (fun j _ => ?_)))
        show q_dy (T + n) σ j = q_dy (T + n) (k_uI σ 0 0 8 (nI (T + n))) j
        unfold q_dy
        simp [q_II, q_IJ, q_ID, q_IP, q_In, q_Ia, q_JI, q_JJ, q_JD, q_JP, q_Jn, q_Ja, q_PI, q_PJ, q_PD, q_PP, q_Pn, q_Pa, q_NI, q_NJ, q_ND, q_NP, q_Nn, q_Na, q_ZI, q_ZJ, q_ZD, q_ZP, q_Zn, q_Za]
    refine q_mut (H := k_uI σ 0 0 8 (nI (T + n))) (v := nI (q_sN (fun j => if T < q_eN σ j ∧ q_eN σ j ≤ T + n then 1 else 0) (k_Z σ 16))) (Mu := fun τ => q_day (k_uI τ 1 0 0 0) (nI (T + n)) (k_J τ 1 0 32 + q_sJ (fun i => q_sJ (q_n1 τ (nI (T + i))) (k_Z σ 15)) n)) (T' := T + n) hI ?_ (q_sm.rf.uI (by omega)) (fun τ hm => ?_) (fun τ => ?_) (fun τ => rfl) (fun τ => ((q_sh.rf.uI (by omega)).uJ).uI (by omega)) pair
    · unfold f_L_pass f_X7_pass
      rw [(q_rwg σ hd).1]
      simp only [k_bc, k_bt]
      rw [hI.Td.1, if_pos (le1.mpr hd2), nI_add, q_lapse (q_H_uI hI.H), Option.bind_some]
      have hSn : q_Sn (T + n) (k_uI σ 0 0 8 (nI (T + n))) := hI.Sn.ag (by omega) (fun l hl => by (repeat first | exact q_al.rf | exact q_al.rf.uI (by omega) | refine q_al.uI ?_ (by omega) | refine q_al.uJ ?_ | refine q_al.uP ?_ (by omega) | refine q_al.new ?_ (by omega) | refine q_al.ladd ?_ (by omega)))
      have e : q_sI (fun j => if q_inc (k_uI σ 0 0 8 (nI (T + n))) j (nI T) = 0 then 0 else if q_inc (k_uI σ 0 0 8 (nI (T + n))) j (k_I (k_uI σ 0 0 8 (nI (T + n))) 0 0 8) = 0 then 1 else 0) (k_Z σ 16) = nI (q_sN (fun j => if T < q_eN σ j ∧ q_eN σ j ≤ T + n then 1 else 0) (k_Z σ 16)) := by
        rw [← q_sI_N]
        refine q_fd_c (fun j hj => ?_)
        have x1 : q_inc (k_uI σ 0 0 8 (nI (T + n))) j (nI T) = if T < q_eN σ j then 1 else 0 := by
          rw [← q_incE hI.Sn hj (Nat.le_refl T) (by omega)]
          unfold q_inc
          simp [q_II, q_IJ, q_ID, q_IP, q_In, q_Ia, q_JI, q_JJ, q_JD, q_JP, q_Jn, q_Ja, q_PI, q_PJ, q_PD, q_PP, q_Pn, q_Pa, q_NI, q_NJ, q_ND, q_NP, q_Nn, q_Na, q_ZI, q_ZJ, q_ZD, q_ZP, q_Zn, q_Za]
        have x2 : q_inc (k_uI σ 0 0 8 (nI (T + n))) j (nI (T + n)) = if T + n < q_eN σ j then 1 else 0 := by
          rw [← q_incE hI.Sn hj (Nat.le_add_right T n) (by omega)]
          unfold q_inc
          simp [q_II, q_IJ, q_ID, q_IP, q_In, q_Ia, q_JI, q_JJ, q_JD, q_JP, q_Jn, q_Ja, q_PI, q_PJ, q_PD, q_PP, q_Pn, q_Pa, q_NI, q_NJ, q_ND, q_NP, q_Nn, q_Na, q_ZI, q_ZJ, q_ZD, q_ZP, q_Zn, q_Za]
        have x3 : k_I (k_uI σ 0 0 8 (nI (T + n))) 0 0 8 = nI (T + n) := by rw [q_II, if_pos ⟨rfl, rfl, rfl⟩]
        show (if q_inc (k_uI σ 0 0 8 (nI (T + n))) j (nI T) = 0 then (0 : Int32) else if q_inc (k_uI σ 0 0 8 (nI (T + n))) j (k_I (k_uI σ 0 0 8 (nI (T + n))) 0 0 8) = 0 then 1 else 0) = nI (if T < q_eN σ j ∧ q_eN σ j ≤ T + n then 1 else 0)
        rw [x3, x1, x2]
        by_cases q1 : T < q_eN σ j
        · rw [if_pos q1, if_neg q_10]
          by_cases q2 : T + n < q_eN σ j
          · rw [if_pos q2, if_neg q_10, if_neg (by omega)]; rfl
          · rw [if_neg q2, if_pos rfl, if_pos ⟨q1, by omega⟩]; rfl
        · rw [if_neg q1, if_pos rfl, if_neg (by omega)]; rfl
      rw [q_ZI, e]
    · show f_X8_pass τ 0 (nI n) = _
      have h' := hm.th (v := 0)
      unfold f_X8_pass
      rw [(q_rwg σ hd).2, Option.bind_some, if_neg (by decide), hm.Td.2.1, if_pos (le1.mpr hd2), q_pass1 h'.M h'.Td.2.1 n2, Option.bind_some, ← h'.laps n n2]
      rfl
    · rfl
  · refine q_exc hI (k := 2) (b := 0) (by decide) ?_ ?_
    · unfold f_L_pass f_X7_pass
      rw [(q_rwg σ hd).1]
      simp only [k_bc, k_bt]
      rw [hI.Td.1, if_neg (fun q => hd2 (le1.mp q))]
      simp
    · show f_X8_pass σ 0 (nI n) = _
      unfold f_X8_pass
      rw [(q_rwg σ hd).2, Option.bind_some, if_neg (by decide), hI.Td.2.1, if_neg (fun q => hd2 (le1.mp q)), q_fails]
      rfl
