/-! ===== THE PURE PART: repeals, votes, days (written by wip/whole/gen76.py) ===== -/
theorem q_rep_hr {T : Nat} {σ m : k_S} (h : q_I T σ m) {r d : Nat} (hr : r < k_Z σ 12) (hd : T < d) (hd2 : d ≤ 1000) (hn : k_I σ 2 r 5 = 1001) {i : Nat} (hi : i < k_Z σ 15) : q_cl (q_hr (k_uI σ 2 r 5 (nI d)) i).1 (fun j => k_I (k_uI σ 2 r 5 (nI d)) 2 j 1) = q_cl (q_hr σ i).1 (fun j => k_I σ 2 j 1) := by
  obtain ⟨-, -, -, -, -, -, h2, ⟨e, h3, h4⟩, -⟩ := h.rp hi
  have hT := h.Td.2.2.1
  have e1 : q_hr (k_uI σ 2 r 5 (nI d)) i = q_hr σ i := by
    unfold q_hr
    rw [q_ZI]
    refine q_ru_c (fun j hj => ⟨?_, ?_, ?_⟩)
    · show q_ho (k_uI σ 2 r 5 (nI d)) j (k_I (k_uI σ 2 r 5 (nI d)) 5 i 5) = q_ho σ j (k_I σ 5 i 5)
      unfold q_ho
      have x1 : k_I (k_uI σ 2 r 5 (nI d)) 5 i 5 = k_I σ 5 i 5 := by rw [q_II, if_neg (by omega)]
      have x2 : k_I (k_uI σ 2 r 5 (nI d)) 2 j 4 = k_I σ 2 j 4 := by rw [q_II, if_neg (by omega)]
      have x3 : k_I (k_uI σ 2 r 5 (nI d)) 2 j 5 = if j = r then nI d else k_I σ 2 j 5 := by simp [q_II, q_IJ, q_ID, q_IP, q_In, q_Ia, q_JI, q_JJ, q_JD, q_JP, q_Jn, q_Ja, q_PI, q_PJ, q_PD, q_PP, q_Pn, q_Pa, q_NI, q_NJ, q_ND, q_NP, q_Nn, q_Na, q_ZI, q_ZJ, q_ZD, q_ZP, q_Zn, q_Za]
      rw [x1, x2, x3]
      by_cases q : j = r
      · have hn2 : k_I σ 2 j 5 = 1001 := by rw [q]; exact hn
        rw [if_pos q, hn2, h2, h4, show (1001 : Int32) = nI 1001 from rfl, if_neg (nI_ge (by omega : e < d) (by omega)), if_neg (nI_ge (by omega : e < 1001) (by omega))]
      · rw [if_neg q]
    · show q_tl _ _ = q_tl _ _
      rw [q_II, if_neg (by omega), q_II, if_neg (by omega)]
    · show k_I (k_uI σ 2 r 5 (nI d)) 2 j 2 = _
      rw [q_II, if_neg (by omega)]
  rw [e1]
  refine congrArg (q_cl (q_hr σ i).1) (funext fun j => ?_)
  rw [q_II, if_neg (by omega)]
theorem g_repeal {T : Nat} {σ : k_S} (hI : q_I T σ σ) (x d : Int32) : q_Ok (f_L_repeal σ 0 x d 0) (fun τ => f_X8_repeal τ 0 x d) := by
  have hz := hI.H.z12
  have hz5 := hI.H.z15
  have hT := hI.Td.2.2.1
  rcases q_ix x (n := k_Z σ 12) (by omega) with ⟨r, hr, rfl⟩ | hx
  · obtain ⟨f, hf1, hf2⟩ := (hI.Ru r hr).2.2.2.2.2.2.2.1
    have c4 : k_I σ 2 r 4 = nI f := by rw [(hI.Ru r hr).2.2.2.2.2.2.1, hf2]
    have cmx : (if k_I σ 0 0 8 < k_I σ 2 r 4 then k_I σ 2 r 4 else k_I σ 0 0 8) + 1 = nI (max T f + 1) := by rw [hI.Td.1, c4, q_maxI (by omega) (by omega), nI_1]
    have mmx : ∀ τ, q_I T σ τ → (if k_I τ 1 0 14 < k_I τ 23 0 r then k_I τ 23 0 r else k_I τ 1 0 14) + 1 = nI (max T f + 1) := fun τ hm => by rw [hm.Td.2.1, ← (hm.Ru r hr).2.2.2.2.2.2.1, c4, q_maxI (by omega) (by omega), nI_1]
    have g12 : 0 ≤ nI r ∧ (nI r).toNatClampNeg < 12 := of_eq_true (q_g (by omega) (by omega))
    have g12' : 0 ≤ nI r ∧ r < 12 := q_g1 (by omega) (by omega)
    by_cases hd : ¬ q_rw d (nI (max T f + 1)) 1000
    · refine q_exc hI (k := 2) (b := 0) (by decide) ?_ ?_
      · unfold f_L_repeal f_X7_repeal
        rw [q_ruleAt hI.H hr]
        simp only [k_bc, k_bt]
        rw [cmx, (q_rwb σ hd).1]
        simp
      · show f_X8_repeal σ 0 (nI r) d = _
        have h' := hI.th (v := 0)
        unfold f_X8_repeal
        rw [q_isRule h'.M hr, Option.bind_some, if_neg (by decide), hI.M.p.2.2.2.1, Option.bind_some, if_pos g12, q_c (by omega), mmx σ hI, (q_rwb σ hd).2, Option.bind_some, if_pos rfl, q_fails]
        rfl
    replace hd := Classical.not_not.mp hd
    obtain ⟨n, n1, n2, rfl⟩ := q_rwI (na := max T f + 1) (nb := 1000) rfl (by decide) (by omega) hd (q_0 (by omega))
    rcases (hI.Ru r hr).2.2.2.2.2.2.2.2 with ⟨e, e1, e2, e3⟩ | ⟨e2, e3⟩
    · have k1 : ¬ nI e = 1001 := fun q => by
        have := (nI_eq (a := e) (b := 1001) (by omega) (by omega)).mp q
        omega
      refine q_exc hI (k := 3) (b := 0) (by decide) ?_ ?_
      · unfold f_L_repeal f_X7_repeal
        rw [q_ruleAt hI.H hr]
        simp only [k_bc, k_bt]
        rw [cmx, (q_rwg σ hd).1]
        simp only
        unfold f_X3_isRepealed
        rw [e3, if_neg k1, Option.bind_some, if_neg q_10]
        simp
      · show f_X8_repeal σ 0 (nI r) (nI n) = _
        have h' := hI.th (v := 0)
        have k2 : ¬ (1000 : Int32) < nI e := nI_nlt (a := 1000) (by omega) (by omega)
        unfold f_X8_repeal
        rw [q_isRule h'.M hr, Option.bind_some, if_neg (by decide), hI.M.p.2.2.2.1, Option.bind_some, if_pos g12, q_c (n := r) (by omega), mmx σ hI, (q_rwg σ hd).2, Option.bind_some, if_neg (by decide), hI.M.p.2.2.2.2.1, Option.bind_some, if_pos g12', e2, if_neg k2, q_fails]
        rfl
    · have pair : ∀ τ, q_I T σ τ → q_I T (k_uI σ 2 r 5 (nI n)) (k_uI (k_uI τ 1 0 0 0) 24 0 r (nI n)) := fun τ hm => by
        have hm := hm.th (v := 0)
        refine ⟨q_H_uI hm.H, hm.M.uI (Or.inl (by decide)), q_sc hm.Td (by simp [q_II, q_IJ, q_ID, q_IP, q_In, q_Ia, q_JI, q_JJ, q_JD, q_JP, q_Jn, q_Ja, q_PI, q_PJ, q_PD, q_PP, q_Pn, q_Pa, q_NI, q_NJ, q_ND, q_NP, q_Nn, q_Na, q_ZI, q_ZJ, q_ZD, q_ZP, q_Zn, q_Za]) (by simp [q_II, q_IJ, q_ID, q_IP, q_In, q_Ia, q_JI, q_JJ, q_JD, q_JP, q_Jn, q_Ja, q_PI, q_PJ, q_PD, q_PP, q_Pn, q_Pa, q_NI, q_NJ, q_ND, q_NP, q_Nn, q_Na, q_ZI, q_ZJ, q_ZD, q_ZP, q_Zn, q_Za]) (by simp [q_II, q_IJ, q_ID, q_IP, q_In, q_Ia, q_JI, q_JJ, q_JD, q_JP, q_Jn, q_Ja, q_PI, q_PJ, q_PD, q_PP, q_Pn, q_Pa, q_NI, q_NJ, q_ND, q_NP, q_Nn, q_Na, q_ZI, q_ZJ, q_ZD, q_ZP, q_Zn, q_Za]) (by simp [q_II, q_IJ, q_ID, q_IP, q_In, q_Ia, q_JI, q_JJ, q_JD, q_JP, q_Jn, q_Ja, q_PI, q_PJ, q_PD, q_PP, q_Pn, q_Pa, q_NI, q_NJ, q_ND, q_NP, q_Nn, q_Na, q_ZI, q_ZJ, q_ZD, q_ZP, q_Zn, q_Za]), ?_, hm.Us.ag (fun l hl => by (repeat first | exact q_al.rf | exact q_al.rf.uI (by omega) | refine q_al.uI ?_ (by omega) | refine q_al.uJ ?_ | refine q_al.uP ?_ (by omega) | refine q_al.new ?_ (by omega) | refine q_al.ladd ?_ (by omega))) (fun l hl => by (repeat first | exact q_al.rf | exact q_al.rf.uI (by omega) | refine q_al.uI ?_ (by omega) | refine q_al.uJ ?_ | refine q_al.uP ?_ (by omega) | refine q_al.new ?_ (by omega) | refine q_al.ladd ?_ (by omega))), hm.Bo.ag (fun l hl => by (repeat first | exact q_al.rf | exact q_al.rf.uI (by omega) | refine q_al.uI ?_ (by omega) | refine q_al.uJ ?_ | refine q_al.uP ?_ (by omega) | refine q_al.new ?_ (by omega) | refine q_al.ladd ?_ (by omega))) (fun l hl => by (repeat first | exact q_al.rf | exact q_al.rf.uI (by omega) | refine q_al.uI ?_ (by omega) | refine q_al.uJ ?_ | refine q_al.uP ?_ (by omega) | refine q_al.new ?_ (by omega) | refine q_al.ladd ?_ (by omega))), hm.Vo.ag (fun l hl => by (repeat first | exact q_al.rf | exact q_al.rf.uI (by omega) | refine q_al.uI ?_ (by omega) | refine q_al.uJ ?_ | refine q_al.uP ?_ (by omega) | refine q_al.new ?_ (by omega) | refine q_al.ladd ?_ (by omega))) (fun l hl => by (repeat first | exact q_al.rf | exact q_al.rf.uI (by omega) | refine q_al.uI ?_ (by omega) | refine q_al.uJ ?_ | refine q_al.uP ?_ (by omega) | refine q_al.new ?_ (by omega) | refine q_al.ladd ?_ (by omega))), hm.Re.ag (Nat.le_refl _) (by simp [q_II, q_IJ, q_ID, q_IP, q_In, q_Ia, q_JI, q_JJ, q_JD, q_JP, q_Jn, q_Ja, q_PI, q_PJ, q_PD, q_PP, q_Pn, q_Pa, q_NI, q_NJ, q_ND, q_NP, q_Nn, q_Na, q_ZI, q_ZJ, q_ZD, q_ZP, q_Zn, q_Za]) (by simp [q_II, q_IJ, q_ID, q_IP, q_In, q_Ia, q_JI, q_JJ, q_JD, q_JP, q_Jn, q_Ja, q_PI, q_PJ, q_PD, q_PP, q_Pn, q_Pa, q_NI, q_NJ, q_ND, q_NP, q_Nn, q_Na, q_ZI, q_ZJ, q_ZD, q_ZP, q_Zn, q_Za]) (fun l hl => by (repeat first | exact q_al.rf | exact q_al.rf.uI (by omega) | refine q_al.uI ?_ (by omega) | refine q_al.uJ ?_ | refine q_al.uP ?_ (by omega) | refine q_al.new ?_ (by omega) | refine q_al.ladd ?_ (by omega))) (fun l hl => by (repeat first | exact q_al.rf | exact q_al.rf.uI (by omega) | refine q_al.uI ?_ (by omega) | refine q_al.uJ ?_ | refine q_al.uP ?_ (by omega) | refine q_al.new ?_ (by omega) | refine q_al.ladd ?_ (by omega))), hm.Ro.ag (fun l hl => by (repeat first | exact q_al.rf | exact q_al.rf.uI (by omega) | refine q_al.uI ?_ (by omega) | refine q_al.uJ ?_ | refine q_al.uP ?_ (by omega) | refine q_al.new ?_ (by omega) | refine q_al.ladd ?_ (by omega))), hm.Sn.ag (Nat.le_refl _) (fun l hl => by (repeat first | exact q_al.rf | exact q_al.rf.uI (by omega) | refine q_al.uI ?_ (by omega) | refine q_al.uJ ?_ | refine q_al.uP ?_ (by omega) | refine q_al.new ?_ (by omega) | refine q_al.ladd ?_ (by omega))), hm.Sr.ag (fun l hl => by (repeat first | exact q_al.rf | exact q_al.rf.uI (by omega) | refine q_al.uI ?_ (by omega) | refine q_al.uJ ?_ | refine q_al.uP ?_ (by omega) | refine q_al.new ?_ (by omega) | refine q_al.ladd ?_ (by omega))) (fun l hl => by (repeat first | exact q_al.rf | exact q_al.rf.uI (by omega) | refine q_al.uI ?_ (by omega) | refine q_al.uJ ?_ | refine q_al.uP ?_ (by omega) | refine q_al.new ?_ (by omega) | refine q_al.ladd ?_ (by omega))), hm.Sd.ag (Nat.le_refl _) (by have := hm.Td.2.2.1; omega) (fun l hl => by (repeat first | exact q_al.rf | exact q_al.rf.uI (by omega) | refine q_al.uI ?_ (by omega) | refine q_al.uJ ?_ | refine q_al.uP ?_ (by omega) | refine q_al.new ?_ (by omega) | refine q_al.ladd ?_ (by omega))) (fun l hl => by (repeat first | exact q_al.rf | exact q_al.rf.uI (by omega) | refine q_al.uI ?_ (by omega) | refine q_al.uJ ?_ | refine q_al.uP ?_ (by omega) | refine q_al.new ?_ (by omega) | refine q_al.ladd ?_ (by omega))), hm.Sj.ag (fun l hl => by (repeat first | exact q_al.rf | exact q_al.rf.uI (by omega) | refine q_al.uI ?_ (by omega) | refine q_al.uJ ?_ | refine q_al.uP ?_ (by omega) | refine q_al.new ?_ (by omega) | refine q_al.ladd ?_ (by omega))) (by simp [q_II, q_IJ, q_ID, q_IP, q_In, q_Ia, q_JI, q_JJ, q_JD, q_JP, q_Jn, q_Ja, q_PI, q_PJ, q_PD, q_PP, q_Pn, q_Pa, q_NI, q_NJ, q_ND, q_NP, q_Nn, q_Na, q_ZI, q_ZJ, q_ZD, q_ZP, q_Zn, q_Za]), hm.Ct.ag (by simp [q_II, q_IJ, q_ID, q_IP, q_In, q_Ia, q_JI, q_JJ, q_JD, q_JP, q_Jn, q_Ja, q_PI, q_PJ, q_PD, q_PP, q_Pn, q_Pa, q_NI, q_NJ, q_ND, q_NP, q_Nn, q_Na, q_ZI, q_ZJ, q_ZD, q_ZP, q_Zn, q_Za]) (by simp [q_II, q_IJ, q_ID, q_IP, q_In, q_Ia, q_JI, q_JJ, q_JD, q_JP, q_Jn, q_Ja, q_PI, q_PJ, q_PD, q_PP, q_Pn, q_Pa, q_NI, q_NJ, q_ND, q_NP, q_Nn, q_Na, q_ZI, q_ZJ, q_ZD, q_ZP, q_Zn, q_Za]) (by simp [q_II, q_IJ, q_ID, q_IP, q_In, q_Ia, q_JI, q_JJ, q_JD, q_JP, q_Jn, q_Ja, q_PI, q_PJ, q_PD, q_PP, q_Pn, q_Pa, q_NI, q_NJ, q_ND, q_NP, q_Nn, q_Na, q_ZI, q_ZJ, q_ZD, q_ZP, q_Zn, q_Za]) (fun l hl => by (repeat first | exact q_al.rf | exact q_al.rf.uI (by omega) | refine q_al.uI ?_ (by omega) | refine q_al.uJ ?_ | refine q_al.uP ?_ (by omega) | refine q_al.new ?_ (by omega) | refine q_al.ladd ?_ (by omega))), hm.De.ag (fun l hl => by (repeat first | exact q_al.rf | exact q_al.rf.uI (by omega) | refine q_al.uI ?_ (by omega) | refine q_al.uJ ?_ | refine q_al.uP ?_ (by omega) | refine q_al.new ?_ (by omega) | refine q_al.ladd ?_ (by omega))) (by simp [q_II, q_IJ, q_ID, q_IP, q_In, q_Ia, q_JI, q_JJ, q_JD, q_JP, q_Jn, q_Ja, q_PI, q_PJ, q_PD, q_PP, q_Pn, q_Pa, q_NI, q_NJ, q_ND, q_NP, q_Nn, q_Na, q_ZI, q_ZJ, q_ZD, q_ZP, q_Zn, q_Za]) (fun l hl => by (repeat first | exact q_al.rf | exact q_al.rf.uI (by omega) | refine q_al.uI ?_ (by omega) | refine q_al.uJ ?_ | refine q_al.uP ?_ (by omega) | refine q_al.new ?_ (by omega) | refine q_al.ladd ?_ (by omega))), hm.Mi.rules hz5 (fun l hl => by (repeat first | exact q_al.rf | exact q_al.rf.uI (by omega) | refine q_al.uI ?_ (by omega) | refine q_al.uJ ?_ | refine q_al.uP ?_ (by omega) | refine q_al.new ?_ (by omega) | refine q_al.ladd ?_ (by omega))) (fun i hi => q_rep_hr hm hr (by omega) n2 e3 hi)⟩
        intro i hi
        rw [q_ZI] at hi
        have h0 := hm.Ru i hi
        have r24 : k_I (k_uI (k_uI τ 1 0 0 0) 24 0 r (nI n)) 24 0 i = if i = r then nI n else k_I (k_uI τ 1 0 0 0) 24 0 i := by simp [q_II, q_IJ, q_ID, q_IP, q_In, q_Ia, q_JI, q_JJ, q_JD, q_JP, q_Jn, q_Ja, q_PI, q_PJ, q_PD, q_PP, q_Pn, q_Pa, q_NI, q_NJ, q_ND, q_NP, q_Nn, q_Na, q_ZI, q_ZJ, q_ZD, q_ZP, q_Zn, q_Za]
        have r25 : k_I (k_uI σ 2 r 5 (nI n)) 2 i 5 = if i = r then nI n else k_I σ 2 i 5 := by simp [q_II, q_IJ, q_ID, q_IP, q_In, q_Ia, q_JI, q_JJ, q_JD, q_JP, q_Jn, q_Ja, q_PI, q_PJ, q_PD, q_PP, q_Pn, q_Pa, q_NI, q_NJ, q_ND, q_NP, q_Nn, q_Na, q_ZI, q_ZJ, q_ZD, q_ZP, q_Zn, q_Za]
        have rl : ∀ l, l ≠ 24 → k_I (k_uI (k_uI τ 1 0 0 0) 24 0 r (nI n)) l 0 i = k_I (k_uI τ 1 0 0 0) l 0 i := fun l hl => by rw [q_II, if_neg (by omega)]
        have rk : ∀ k, k ≠ 5 → k_I (k_uI σ 2 r 5 (nI n)) 2 i k = k_I σ 2 i k := fun k hk => by rw [q_II, if_neg (by omega)]
        rw [r24, r25, rl 20 (by decide), rl 28 (by decide), rl 21 (by decide), rl 22 (by decide), rl 23 (by decide), rk 0 (by decide), rk 1 (by decide), rk 2 (by decide), rk 3 (by decide), rk 4 (by decide)]
        refine ⟨h0.1, h0.2.1, h0.2.2.1, h0.2.2.2.1, h0.2.2.2.2.1, h0.2.2.2.2.2.1, h0.2.2.2.2.2.2.1, h0.2.2.2.2.2.2.2.1, ?_⟩
        by_cases q : i = r
        · rw [if_pos q, if_pos q]
          exact Or.inl ⟨n, n2, rfl, rfl⟩
        · rw [if_neg q, if_neg q]
          exact h0.2.2.2.2.2.2.2.2
      refine q_mut (H := k_uI σ 2 r 5 (nI n)) (v := q_sI (fun i => q_01 (q_ho (k_uI σ 2 r 5 (nI n)) i (nI n))) (k_Z σ 12)) (Mu := fun τ => k_uI (k_uI τ 1 0 0 0) 24 0 r (nI n)) (T' := T) hI ?_ (q_sm.rf.uI (by omega)) (fun τ hm => ?_) (fun τ => ?_) (fun τ => rfl) (fun τ => (q_sh.rf.uI (by omega)).uI (by omega)) pair
      · unfold f_L_repeal f_X7_repeal
        rw [q_ruleAt hI.H hr]
        simp only [k_bc, k_bt]
        rw [cmx, (q_rwg σ hd).1]
        simp only
        unfold f_X3_isRepealed
        rw [e3, if_pos rfl, Option.bind_some, if_pos rfl, q_rulesInForce (q_H_uI hI.H), Option.bind_some]
        rfl
      · show f_X8_repeal τ 0 (nI r) (nI n) = _
        have h' := hm.th (v := 0)
        have hp := pair τ hm
        have e2' : k_I τ 24 0 r = 2147483647 := by
          rcases (hm.Ru r hr).2.2.2.2.2.2.2.2 with ⟨e, q1, q2, q3⟩ | ⟨q2, q3⟩
          · have := (nI_eq (a := e) (b := 1001) (by omega) (by omega)).mp (q3.symm.trans e3)
            omega
          · exact q2
        have k2 : (1000 : Int32) < 2147483647 := by decide
        unfold f_X8_repeal
        rw [q_isRule h'.M hr, Option.bind_some, if_neg (by decide), hm.M.p.2.2.2.1, Option.bind_some, if_pos g12, q_c (n := r) (by omega), mmx τ hm, (q_rwg σ hd).2, Option.bind_some, if_neg (by decide), hm.M.p.2.2.2.2.1, Option.bind_some, if_pos g12', e2', if_pos k2, if_pos g12', q_m_repeal hp.M, Option.bind_some]
        refine congrArg (fun z => some (z, k_uI (k_uI τ 1 0 0 0) 24 0 r (nI n))) (q_fd_c (fun i hi => ?_))
        show q_01 (q_if _ i (nI n)) = q_01 (q_ho _ i (nI n))
        rw [q_hi hp.Ru hi n2]
      · rw [q_thr0 _ (by omega), q_thr1]
  · refine q_exc hI (k := 1) (b := 0) (by decide) ?_ ?_
    · unfold f_L_repeal f_X7_repeal
      rw [q_ruleAtb hI.H hx]
      simp [k_bc, k_bt]
    · show f_X8_repeal σ 0 x d = _
      have h' := hI.th (v := 0)
      unfold f_X8_repeal
      rw [q_isRuleb h'.M hx, Option.bind_some, if_pos rfl, q_fails]
      rfl
