/-! ===== THE PURE PART: decide, 2 (written by wip/whole/gen81.py) ===== -/
theorem q_thr_I {T : Nat} {a m : k_S} (hm : q_I T a m) {b : Nat} (hb : b < k_Z a 14) {t : Int32} (h1 : 50 ≤ t) (h2 : t ≤ 100) : q_I T (k_uI a 4 b 1 t) (k_uI m 27 0 b t) := by
  refine ⟨q_H_uI hm.H, hm.M.uI (Or.inl (by decide)), q_sc hm.Td (by simp [q_II, q_IJ, q_ID, q_IP, q_In, q_Ia, q_JI, q_JJ, q_JD, q_JP, q_Jn, q_Ja, q_PI, q_PJ, q_PD, q_PP, q_Pn, q_Pa, q_NI, q_NJ, q_ND, q_NP, q_Nn, q_Na, q_ZI, q_ZJ, q_ZD, q_ZP, q_Zn, q_Za]) (by simp [q_II, q_IJ, q_ID, q_IP, q_In, q_Ia, q_JI, q_JJ, q_JD, q_JP, q_Jn, q_Ja, q_PI, q_PJ, q_PD, q_PP, q_Pn, q_Pa, q_NI, q_NJ, q_ND, q_NP, q_Nn, q_Na, q_ZI, q_ZJ, q_ZD, q_ZP, q_Zn, q_Za]) (by simp [q_II, q_IJ, q_ID, q_IP, q_In, q_Ia, q_JI, q_JJ, q_JD, q_JP, q_Jn, q_Ja, q_PI, q_PJ, q_PD, q_PP, q_Pn, q_Pa, q_NI, q_NJ, q_ND, q_NP, q_Nn, q_Na, q_ZI, q_ZJ, q_ZD, q_ZP, q_Zn, q_Za]) (by simp [q_II, q_IJ, q_ID, q_IP, q_In, q_Ia, q_JI, q_JJ, q_JD, q_JP, q_Jn, q_Ja, q_PI, q_PJ, q_PD, q_PP, q_Pn, q_Pa, q_NI, q_NJ, q_ND, q_NP, q_Nn, q_Na, q_ZI, q_ZJ, q_ZD, q_ZP, q_Zn, q_Za]), hm.Ru.ag (fun l hl => by (repeat first | exact q_al.rf | exact q_al.rf.uI (by omega) | refine q_al.uI ?_ (by omega) | refine q_al.uJ ?_ | refine q_al.uP ?_ (by omega) | refine q_al.new ?_ (by omega) | refine q_al.ladd ?_ (by omega))) (fun l hl => by (repeat first | exact q_al.rf | exact q_al.rf.uI (by omega) | refine q_al.uI ?_ (by omega) | refine q_al.uJ ?_ | refine q_al.uP ?_ (by omega) | refine q_al.new ?_ (by omega) | refine q_al.ladd ?_ (by omega))), hm.Us.ag (fun l hl => by (repeat first | exact q_al.rf | exact q_al.rf.uI (by omega) | refine q_al.uI ?_ (by omega) | refine q_al.uJ ?_ | refine q_al.uP ?_ (by omega) | refine q_al.new ?_ (by omega) | refine q_al.ladd ?_ (by omega))) (fun l hl => by (repeat first | exact q_al.rf | exact q_al.rf.uI (by omega) | refine q_al.uI ?_ (by omega) | refine q_al.uJ ?_ | refine q_al.uP ?_ (by omega) | refine q_al.new ?_ (by omega) | refine q_al.ladd ?_ (by omega))), ?_, hm.Vo.ag (fun l hl => by (repeat first | exact q_al.rf | exact q_al.rf.uI (by omega) | refine q_al.uI ?_ (by omega) | refine q_al.uJ ?_ | refine q_al.uP ?_ (by omega) | refine q_al.new ?_ (by omega) | refine q_al.ladd ?_ (by omega))) (fun l hl => by (repeat first | exact q_al.rf | exact q_al.rf.uI (by omega) | refine q_al.uI ?_ (by omega) | refine q_al.uJ ?_ | refine q_al.uP ?_ (by omega) | refine q_al.new ?_ (by omega) | refine q_al.ladd ?_ (by omega))), hm.Re.ag (Nat.le_refl _) (by simp [q_II, q_IJ, q_ID, q_IP, q_In, q_Ia, q_JI, q_JJ, q_JD, q_JP, q_Jn, q_Ja, q_PI, q_PJ, q_PD, q_PP, q_Pn, q_Pa, q_NI, q_NJ, q_ND, q_NP, q_Nn, q_Na, q_ZI, q_ZJ, q_ZD, q_ZP, q_Zn, q_Za]) (by simp [q_II, q_IJ, q_ID, q_IP, q_In, q_Ia, q_JI, q_JJ, q_JD, q_JP, q_Jn, q_Ja, q_PI, q_PJ, q_PD, q_PP, q_Pn, q_Pa, q_NI, q_NJ, q_ND, q_NP, q_Nn, q_Na, q_ZI, q_ZJ, q_ZD, q_ZP, q_Zn, q_Za]) (fun l hl => by (repeat first | exact q_al.rf | exact q_al.rf.uI (by omega) | refine q_al.uI ?_ (by omega) | refine q_al.uJ ?_ | refine q_al.uP ?_ (by omega) | refine q_al.new ?_ (by omega) | refine q_al.ladd ?_ (by omega))) (fun l hl => by (repeat first | exact q_al.rf | exact q_al.rf.uI (by omega) | refine q_al.uI ?_ (by omega) | refine q_al.uJ ?_ | refine q_al.uP ?_ (by omega) | refine q_al.new ?_ (by omega) | refine q_al.ladd ?_ (by omega))), hm.Ro.ag (fun l hl => by (repeat first | exact q_al.rf | exact q_al.rf.uI (by omega) | refine q_al.uI ?_ (by omega) | refine q_al.uJ ?_ | refine q_al.uP ?_ (by omega) | refine q_al.new ?_ (by omega) | refine q_al.ladd ?_ (by omega))), hm.Sn.ag (Nat.le_refl _) (fun l hl => by (repeat first | exact q_al.rf | exact q_al.rf.uI (by omega) | refine q_al.uI ?_ (by omega) | refine q_al.uJ ?_ | refine q_al.uP ?_ (by omega) | refine q_al.new ?_ (by omega) | refine q_al.ladd ?_ (by omega))), hm.Sr.ag (fun l hl => by (repeat first | exact q_al.rf | exact q_al.rf.uI (by omega) | refine q_al.uI ?_ (by omega) | refine q_al.uJ ?_ | refine q_al.uP ?_ (by omega) | refine q_al.new ?_ (by omega) | refine q_al.ladd ?_ (by omega))) (fun l hl => by (repeat first | exact q_al.rf | exact q_al.rf.uI (by omega) | refine q_al.uI ?_ (by omega) | refine q_al.uJ ?_ | refine q_al.uP ?_ (by omega) | refine q_al.new ?_ (by omega) | refine q_al.ladd ?_ (by omega))), hm.Sd.ag (Nat.le_refl _) (by have := hm.Td.2.2.1; omega) (fun l hl => by (repeat first | exact q_al.rf | exact q_al.rf.uI (by omega) | refine q_al.uI ?_ (by omega) | refine q_al.uJ ?_ | refine q_al.uP ?_ (by omega) | refine q_al.new ?_ (by omega) | refine q_al.ladd ?_ (by omega))) (fun l hl => by (repeat first | exact q_al.rf | exact q_al.rf.uI (by omega) | refine q_al.uI ?_ (by omega) | refine q_al.uJ ?_ | refine q_al.uP ?_ (by omega) | refine q_al.new ?_ (by omega) | refine q_al.ladd ?_ (by omega))), hm.Sj.ag (fun l hl => by (repeat first | exact q_al.rf | exact q_al.rf.uI (by omega) | refine q_al.uI ?_ (by omega) | refine q_al.uJ ?_ | refine q_al.uP ?_ (by omega) | refine q_al.new ?_ (by omega) | refine q_al.ladd ?_ (by omega))) (by simp [q_II, q_IJ, q_ID, q_IP, q_In, q_Ia, q_JI, q_JJ, q_JD, q_JP, q_Jn, q_Ja, q_PI, q_PJ, q_PD, q_PP, q_Pn, q_Pa, q_NI, q_NJ, q_ND, q_NP, q_Nn, q_Na, q_ZI, q_ZJ, q_ZD, q_ZP, q_Zn, q_Za]), hm.Ct.ag (by simp [q_II, q_IJ, q_ID, q_IP, q_In, q_Ia, q_JI, q_JJ, q_JD, q_JP, q_Jn, q_Ja, q_PI, q_PJ, q_PD, q_PP, q_Pn, q_Pa, q_NI, q_NJ, q_ND, q_NP, q_Nn, q_Na, q_ZI, q_ZJ, q_ZD, q_ZP, q_Zn, q_Za]) (by simp [q_II, q_IJ, q_ID, q_IP, q_In, q_Ia, q_JI, q_JJ, q_JD, q_JP, q_Jn, q_Ja, q_PI, q_PJ, q_PD, q_PP, q_Pn, q_Pa, q_NI, q_NJ, q_ND, q_NP, q_Nn, q_Na, q_ZI, q_ZJ, q_ZD, q_ZP, q_Zn, q_Za]) (by simp [q_II, q_IJ, q_ID, q_IP, q_In, q_Ia, q_JI, q_JJ, q_JD, q_JP, q_Jn, q_Ja, q_PI, q_PJ, q_PD, q_PP, q_Pn, q_Pa, q_NI, q_NJ, q_ND, q_NP, q_Nn, q_Na, q_ZI, q_ZJ, q_ZD, q_ZP, q_Zn, q_Za]) (fun l hl => by (repeat first | exact q_al.rf | exact q_al.rf.uI (by omega) | refine q_al.uI ?_ (by omega) | refine q_al.uJ ?_ | refine q_al.uP ?_ (by omega) | refine q_al.new ?_ (by omega) | refine q_al.ladd ?_ (by omega))), hm.De.ag (fun l hl => by (repeat first | exact q_al.rf | exact q_al.rf.uI (by omega) | refine q_al.uI ?_ (by omega) | refine q_al.uJ ?_ | refine q_al.uP ?_ (by omega) | refine q_al.new ?_ (by omega) | refine q_al.ladd ?_ (by omega))) (by simp [q_II, q_IJ, q_ID, q_IP, q_In, q_Ia, q_JI, q_JJ, q_JD, q_JP, q_Jn, q_Ja, q_PI, q_PJ, q_PD, q_PP, q_Pn, q_Pa, q_NI, q_NJ, q_ND, q_NP, q_Nn, q_Na, q_ZI, q_ZJ, q_ZD, q_ZP, q_Zn, q_Za]) (fun l hl => by (repeat first | exact q_al.rf | exact q_al.rf.uI (by omega) | refine q_al.uI ?_ (by omega) | refine q_al.uJ ?_ | refine q_al.uP ?_ (by omega) | refine q_al.new ?_ (by omega) | refine q_al.ladd ?_ (by omega))), hm.Mi.ag (fun l hl => by (repeat first | exact q_al.rf | exact q_al.rf.uI (by omega) | refine q_al.uI ?_ (by omega) | refine q_al.uJ ?_ | refine q_al.uP ?_ (by omega) | refine q_al.new ?_ (by omega) | refine q_al.ladd ?_ (by omega)))⟩
  intro i hi
  rw [q_ZI] at hi
  have h0 := hm.Bo i hi
  have x1 : k_I (k_uI a 4 b 1 t) 4 i 1 = if i = b then t else k_I a 4 i 1 := by simp [q_II, q_IJ, q_ID, q_IP, q_In, q_Ia, q_JI, q_JJ, q_JD, q_JP, q_Jn, q_Ja, q_PI, q_PJ, q_PD, q_PP, q_Pn, q_Pa, q_NI, q_NJ, q_ND, q_NP, q_Nn, q_Na, q_ZI, q_ZJ, q_ZD, q_ZP, q_Zn, q_Za]
  have x2 : k_I (k_uI m 27 0 b t) 27 0 i = if i = b then t else k_I m 27 0 i := by simp [q_II, q_IJ, q_ID, q_IP, q_In, q_Ia, q_JI, q_JJ, q_JD, q_JP, q_Jn, q_Ja, q_PI, q_PJ, q_PD, q_PP, q_Pn, q_Pa, q_NI, q_NJ, q_ND, q_NP, q_Nn, q_Na, q_ZI, q_ZJ, q_ZD, q_ZP, q_Zn, q_Za]
  have x3 : k_I (k_uI a 4 b 1 t) 4 i 0 = k_I a 4 i 0 := by rw [q_II, if_neg (by omega)]
  have x4 : k_I (k_uI m 27 0 b t) 26 0 i = k_I m 26 0 i := by rw [q_II, if_neg (by omega)]
  rw [x1, x2, x3, x4]
  by_cases q : i = b
  · rw [if_pos q, if_pos q]
    exact ⟨h0.1, rfl, h1, h2⟩
  · rw [if_neg q, if_neg q]
    exact h0
theorem q_mx {x : Int32} (c : Int32) : (if c < x then x else c) = (if x < c then c else x) := by
  by_cases h : c < x
  · rw [if_pos h, if_neg (fun q => Int32.lt_irrefl (Int32.lt_trans h q))]
  · rw [if_neg h]
    by_cases h2 : x < c
    · rw [if_pos h2]
    · rw [if_neg h2]
      exact Int32.le_antisymm (Int32.not_lt.mp h2) (Int32.not_lt.mp h)
theorem q_mn {x c : Int32} : (if x < c then x else c) = (if c < x then c else x) := by
  by_cases h : x < c
  · rw [if_pos h, if_neg (fun q => Int32.lt_irrefl (Int32.lt_trans h q))]
  · rw [if_neg h]
    by_cases h2 : c < x
    · rw [if_pos h2]
    · rw [if_neg h2]
      exact Int32.le_antisymm (Int32.not_lt.mp h) (Int32.not_lt.mp h2)
theorem q_learn (a : k_S) (j : Nat) (rv : Int32) : f_X0_learn a j rv = some ((), k_uI a 4 j 1 (q_lrn rv (k_I a 4 j 1))) := by
  unfold f_X0_learn q_lrn
  split <;> rfl
theorem q_closeA (a : k_S) (r : Nat) (o : Int32) : f_X7_closeAppeal a r o = some ((), q_cH a r (if k_I a 5 r 11 = o then 0 else 1) (k_P a 5 r 8) (k_I a 5 r 11)) := by
  have x4 : ∀ v j, k_I (k_uI a 5 r 12 v) 4 j 1 = k_I a 4 j 1 := fun v j => by rw [q_II, if_neg (by omega)]
  unfold f_X7_closeAppeal q_cH
  by_cases e : o = k_I a 5 r 11
  · rw [if_pos e, if_pos e.symm]
    cases hp : k_P a 5 r 8 with
    | none => rfl
    | some j =>
      show (if _ then _ else _) = _
      by_cases e2 : k_I a 5 r 11 = 103
      · rw [if_pos e2, q_learn, Option.bind_some, x4]
        dsimp only
        rw [if_pos e2]
      · rw [if_neg e2]
        dsimp only
        rw [if_neg e2]
  · rw [if_neg e, if_neg (fun q => e q.symm)]
    cases hp : k_P a 5 r 8 with
    | none => rfl
    | some j =>
      show (if _ then _ else _) = _
      by_cases e2 : k_I a 5 r 11 = 103
      · rw [if_pos e2, q_learn, Option.bind_some, x4]
        dsimp only
        rw [if_pos e2]
      · rw [if_neg e2]
        dsimp only
        rw [if_neg e2]
/-- a decision on appeal -/
theorem q_app_I {T : Nat} {a m : k_S} (h : q_I T a m) {r u : Nat} (hr : r < k_Z a 15) (hs : k_I m 38 0 r = 101) (hu : k_P a 5 r 2 = some u) (sF sA : Int32) (rv : Int32) (hrv : rv = if k_I m 40 0 r = q_hf a 0 r sF sA then 0 else 1) : q_I T (q_cH (q_stl a r u (q_hf a 0 r sF sA) sF sA (k_I a 2 (q_hr a r).1.toNatClampNeg 3)) r rv (k_P a 5 r 8) (k_I m 40 0 r)) (q_cM (q_mdl m r (q_hf a 0 r sF sA) (-1) (k_I a 2 (q_hr a r).1.toNatClampNeg 3)) rv (k_I m 35 0 r) (k_I m 40 0 r)) := by
  have hz := h.H.z14
  have I0 := q_app0_I h hr hs hu sF sA rv hrv
  have hb : q_bot (k_Z a 14) (k_P a 5 r 8) (k_I m 35 0 r) := by
    rcases h.rs hr with q | q | q | q
    · rw [q.1] at hs; exact absurd hs (by decide)
    · rw [q.1] at hs; exact absurd hs (by decide)
    · exact q.2.2.2.2.2
    · rw [q.1] at hs; exact absurd hs (by decide)
  have z14 : k_Z (q_stl a r u (q_hf a 0 r sF sA) sF sA (k_I a 2 (q_hr a r).1.toNatClampNeg 3)) 14 = k_Z a 14 := by rw [q_stl_Z (by decide), if_neg (by decide), if_neg (by omega)]
  generalize q_stl a r u (q_hf a 0 r sF sA) sF sA (k_I a 2 (q_hr a r).1.toNatClampNeg 3) = a' at *
  generalize q_mdl m r (q_hf a 0 r sF sA) (-1) (k_I a 2 (q_hr a r).1.toNatClampNeg 3) = m' at *
  unfold q_cH q_cM
  rcases hb with ⟨e1, e2⟩ | ⟨j, hj, e1, e2⟩
  · have k9 : (-1 : Int32) < 0 := by decide
    rw [e1, e2, if_pos k9]
    exact I0
  · rw [e1, e2, if_neg (nI_pos (by omega)), q_c (by omega)]
    dsimp only
    by_cases e3 : k_I m 40 0 r = 103
    · rw [if_pos e3, if_pos e3]
      have B := I0.Bo j (by rw [q_ZI, z14]; exact hj)
      have x1 : k_I (k_uI a' 5 r 12 rv) 4 j 1 = k_I a' 4 j 1 := by rw [q_II, if_neg (by omega)]
      have x2 : k_I (q_cM0 m' rv) 27 0 j = k_I m' 27 0 j := by unfold q_cM0; rw [q_II, if_neg (by omega), q_II, if_neg (by omega)]
      rw [x1, x2] at B
      rw [B.2.1]
      obtain ⟨l1, l2⟩ := q_lrn_ok (rv := rv) B.2.2.1 B.2.2.2
      exact q_thr_I I0 (by rw [q_ZI, z14]; exact hj) l1 l2
    · rw [if_neg e3, if_neg e3]
      exact I0
theorem g_decide {T : Nat} {σ : k_S} (hI : q_I T σ σ) (x : Int32) : q_Ok (f_L_decide σ 0 x 0) (fun τ => f_X8_decide τ 0 x) := by
  have hz5 := hI.H.z15
  have hz4 := hI.H.z14
  rcases q_ix x (n := k_Z σ 15) (by omega) with ⟨r, hr, rfl⟩ | hx
  rotate_left
  · refine q_exc hI (k := 1) (b := 0) (by decide) ?_ ?_
    · unfold f_L_decide f_X7_decide
      rw [q_reportAtb hI.H hx]
      simp [k_bc, k_bt]
    · show f_X8_decide σ 0 x = _
      unfold f_X8_decide
      rw [q_isNoneb hI hx, Option.bind_some]
      exact if_neg q_10
  have g20 : 0 ≤ nI r ∧ (nI r).toNatClampNeg < 20 := of_eq_true (q_g (by omega) (by omega))
  have g20' : 0 ≤ nI r ∧ r < 20 := q_g1 (by omega) (by omega)
  have st := hI.st hr
  by_cases hs : k_I σ 38 0 r = 100
  · refine q_exc hI (k := 2) (b := 0) (by decide) ?_ ?_
    · unfold f_L_decide f_X7_decide f_X7_requireUndecided
      rw [q_reportAt hI.H hr]
      simp only [k_bc, k_bt]
      rw [st.1, if_pos hs]
      simp
    · show f_X8_decide σ 0 (nI r) = _
      have h' := hI.th (v := 0)
      unfold f_X8_decide
      rw [q_isNone hI hr, Option.bind_some, if_pos rfl]
      dsimp only
      rw [h'.M.q.2.2.2.2.2.2.2.2.2.1, Option.bind_some, if_pos g20, q_c (n := r) (by omega), q_thI (by decide), if_pos hs, q_fails, Option.bind_some]
      dsimp only
      rw [if_pos (by decide)]
      rfl
  obtain ⟨S1, hS1⟩ : ∃ S1, S1 = q_sI (fun u => if (k_I σ 9 r u) < 0 then 0 else (k_I σ 9 r u)) 8 := ⟨_, rfl⟩
  obtain ⟨S2, hS2⟩ : ∃ S2, S2 = q_sI (fun u => if (-(k_I σ 9 r u)) < 0 then 0 else (-(k_I σ 9 r u))) 8 := ⟨_, rfl⟩
  have s1 : f_X2_sumFor σ r = some S1 := by rw [q_sumFor (hI.p6 hr), hS1]
  have s2 : f_X2_sumAgainst σ r = some S2 := by rw [q_sumAgainst (hI.p6 hr), hS2]
  have w1 : ∀ τ, q_I T σ τ → f_X8_weight τ 0 (nI r) 1 = some S1 := fun τ hm => by rw [q_weight hm.M (by omega), ← hm.w1 hr, hS1]
  have w2 : ∀ τ, q_I T σ τ → f_X8_weight τ 0 (nI r) (-1) = some S2 := fun τ hm => by rw [q_weight hm.M (by omega), ← hm.w2 hr, hS2]
  by_cases hq : k_I σ 0 0 9 ≤ S1 + S2
  rotate_left
  · refine q_exc hI (k := 3) (b := 0) (by decide) ?_ ?_
    · unfold f_L_decide f_X7_decide f_X7_requireUndecided
      rw [q_reportAt hI.H hr]
      simp only [k_bc, k_bt]
      rw [st.1, if_neg hs]
      simp only
      rw [s1, Option.bind_some, s2, Option.bind_some, if_neg hq]
      simp
    · show f_X8_decide σ 0 (nI r) = _
      have h' := hI.th (v := 0)
      unfold f_X8_decide
      rw [q_isNone hI hr, Option.bind_some, if_pos rfl]
      dsimp only
      rw [h'.M.q.2.2.2.2.2.2.2.2.2.1, Option.bind_some, if_pos g20, q_c (n := r) (by omega), q_thI (by decide), if_neg hs, w1 _ h', Option.bind_some, w2 _ h', Option.bind_some, ← h'.Td.2.2.2, if_neg hq, q_fails, Option.bind_some]
      dsimp only
      rw [if_pos (by decide)]
      rfl
  obtain ⟨rz1, rz2⟩ := hI.roomZ hr (Or.inl hs)
  obtain ⟨u, hu1, hu2, hu3⟩ := (hI.rp hr).2.2.1
  have set := q_settle hI.H rz1 rz2 hI.ch (by omega : r < 20) (hI.nu r hr) hu2 S1 S2
  have hoc : q_oc (q_hf σ 0 r S1 S2) := by
    unfold q_hf
    rw [q_fo_fc]
    exact q_fc_oc
  have dec : ∀ τ, q_I T σ τ → f_X8_decides τ 0 (nI r) S1 S2 (-1) = some ((), q_mdl τ r (q_hf σ 0 r S1 S2) (-1) (k_I σ 2 (q_hr σ r).1.toNatClampNeg 3)) := fun τ hm => by
    rw [q_decides hm.M (by omega) hm.hrk, ← hm.hf hr, q_mdl_d (d' := k_I σ 2 (q_hr σ r).1.toNatClampNeg 3)]
    rcases hm.rd hr (sF := S1) (sA := S2) with e | e
    · exact Or.inl e.symm
    · exact Or.inr e
  have m38 : ∀ τ, q_I T σ τ → k_I τ 38 0 r = k_I σ 38 0 r := fun τ hm => by rw [← (hm.st hr).1, st.1]
  by_cases hs2 : k_I σ 38 0 r = 101
  · -- on appeal
    have p5 : k_P (q_stl σ r u (q_hf σ 0 r S1 S2) S1 S2 (k_I σ 2 (q_hr σ r).1.toNatClampNeg 3)) 5 r 8 = k_P σ 5 r 8 := by rw [q_stl_P (by decide), if_neg (by omega)]
    have i11 : k_I (q_stl σ r u (q_hf σ 0 r S1 S2) S1 S2 (k_I σ 2 (q_hr σ r).1.toNatClampNeg 3)) 5 r 11 = k_I σ 40 0 r := by
      rw [q_stl_I (by decide), if_neg (by omega), if_neg (by omega), if_neg (by omega), if_neg (by omega)]
      exact (hI.rp hr).2.2.2.2.2.2.2.2.2.2
    have m40 : ∀ τ, q_I T σ τ → k_I τ 40 0 r = k_I σ 40 0 r := fun τ hm => by
      rw [← (hm.rp hr).2.2.2.2.2.2.2.2.2.2, (hI.rp hr).2.2.2.2.2.2.2.2.2.2]
    have hbt : ∀ τ, q_I T σ τ → q_bot (k_Z σ 14) (k_P σ 5 r 8) (k_I τ 35 0 r) := fun τ hm => by
      have e := (m38 τ hm).trans hs2
      rcases hm.rs hr with q | q | q | q
      · rw [q.1] at e; exact absurd e (by decide)
      · rw [q.1] at e; exact absurd e (by decide)
      · exact q.2.2.2.2.2
      · rw [q.1] at e; exact absurd e (by decide)
    obtain ⟨rv, hrv⟩ : ∃ rv, rv = (if k_I σ 40 0 r = q_hf σ 0 r S1 S2 then (0 : Int32) else 1) := ⟨_, rfl⟩
    refine q_mut (H := q_cH (q_stl σ r u (q_hf σ 0 r S1 S2) S1 S2 (k_I σ 2 (q_hr σ r).1.toNatClampNeg 3)) r rv (k_P σ 5 r 8) (k_I σ 40 0 r)) (v := q_hf σ 0 r S1 S2) (Mu := fun τ => q_cM (q_mdl (k_uI τ 1 0 0 0) r (q_hf σ 0 r S1 S2) (-1) (k_I σ 2 (q_hr σ r).1.toNatClampNeg 3)) rv (k_I (k_uI τ 1 0 0 0) 35 0 r) (k_I σ 40 0 r)) (T' := T) hI ?_ ?_ (fun τ hm => ?_) (fun τ => ?_) (fun τ => ?_) (fun τ => ?_) (fun τ hm => ?_)
    · unfold f_L_decide f_X7_decide f_X7_requireUndecided
      rw [q_reportAt hI.H hr]
      simp only [k_bc, k_bt]
      rw [st.1, if_neg hs]
      simp only
      rw [s1, Option.bind_some, s2, Option.bind_some, if_pos hq, if_pos hs2, set, Option.bind_some, if_neg q_10]
      dsimp only
      rw [q_closeA, i11, p5, Option.bind_some, if_pos (q_oc_C hoc), ← hrv]
    · refine q_sm.tr (τ := q_stl σ r u (q_hf σ 0 r S1 S2) S1 S2 (k_I σ 2 (q_hr σ r).1.toNatClampNeg 3)) q_stl_sm ?_
      unfold q_cH
      split
      · exact q_sm.rf.uI (by omega)
      · split
        · exact (q_sm.rf.uI (by omega)).uI (by omega)
        · exact q_sm.rf.uI (by omega)
    · show f_X8_decide τ 0 (nI r) = _
      have h' := hm.th (v := 0)
      have e38 : k_I (k_uI τ 1 0 0 0) 38 0 r = 101 := (m38 _ h').trans hs2
      have n100 : ¬ (101 : Int32) = 100 := by decide
      have x39 : k_I (q_mdl (k_uI τ 1 0 0 0) r (q_hf σ 0 r S1 S2) (-1) (k_I σ 2 (q_hr σ r).1.toNatClampNeg 3)) 39 0 r = q_hf σ 0 r S1 S2 := q_mdl_r.2.1
      have x40 : k_I (q_mdl (k_uI τ 1 0 0 0) r (q_hf σ 0 r S1 S2) (-1) (k_I σ 2 (q_hr σ r).1.toNatClampNeg 3)) 40 0 r = k_I σ 40 0 r := by rw [q_mdl_Io (by omega)]; exact m40 _ h'
      have P : ∀ k, k_P (q_mdl (k_uI τ 1 0 0 0) r (q_hf σ 0 r S1 S2) (-1) (k_I σ 2 (q_hr σ r).1.toNatClampNeg 3)) 1 0 k = k_P (k_uI τ 1 0 0 0) 1 0 k := fun k => q_mdl_P
      have bt := hbt _ h'
      unfold f_X8_decide
      rw [q_isNone hm hr, Option.bind_some, if_pos rfl]
      dsimp only
      rw [h'.M.q.2.2.2.2.2.2.2.2.2.1, Option.bind_some, if_pos g20, q_c (n := r) (by omega), e38, if_neg n100, w1 _ h', Option.bind_some, w2 _ h', Option.bind_some, ← h'.Td.2.2.2, if_pos hq, if_pos g20', if_pos rfl, h'.M.q.2.2.2.2.2.2.1, Option.bind_some, if_pos g20', Option.bind_some, Option.bind_some, dec _ h', Option.bind_some, if_neg q_10]
      dsimp only
      generalize q_mdl (k_uI τ 1 0 0 0) r (q_hf σ 0 r S1 S2) (-1) (k_I σ 2 (q_hr σ r).1.toNatClampNeg 3) = m' at *
      generalize k_I (k_uI τ 1 0 0 0) 35 0 r = b at *
      rw [P 25, h'.M.q.2.2.2.2.2.2.2.2.2.2.1, Option.bind_some, if_pos g20', P 26, h'.M.q.2.2.2.2.2.2.2.2.2.2.2.1, Option.bind_some, if_pos g20', x39, x40]
      unfold q_cM q_cM0
      by_cases e1 : q_hf σ 0 r S1 S2 = k_I σ 40 0 r
      · rw [if_pos e1.symm] at hrv
        rw [if_pos e1, if_pos rfl, hrv]
        by_cases e2 : b < 0
        · rw [if_pos e2, if_pos e2, if_pos g20', if_pos (q_oc_C hoc)]
        · rw [if_neg e2, if_neg e2, if_pos g20']
          rcases bt with ⟨_, q⟩ | ⟨j, hj, _, q⟩
          · rw [q] at e2; exact absurd (by decide) e2
          · have gj : 0 ≤ nI j ∧ (nI j).toNatClampNeg < 4 := of_eq_true (q_g (by omega) (by omega))
            by_cases e3 : k_I σ 40 0 r = 103
            · rw [if_pos e3, if_pos e3, P 8, h'.M.p.2.2.2.2.2.2.2.1, Option.bind_some, if_pos rfl, q, if_pos gj, if_pos gj, if_pos g20', if_pos (q_oc_C hoc), q_mx]
              rfl
            · rw [if_neg e3, if_neg e3, if_pos g20', if_pos (q_oc_C hoc)]
      · rw [if_neg (fun q => e1 q.symm)] at hrv
        rw [if_neg e1, if_neg q_10, hrv]
        by_cases e2 : b < 0
        · rw [if_pos e2, if_pos e2, if_pos g20', if_pos (q_oc_C hoc)]
        · rw [if_neg e2, if_neg e2, if_pos g20']
          rcases bt with ⟨_, q⟩ | ⟨j, hj, _, q⟩
          · rw [q] at e2; exact absurd (by decide) e2
          · have gj : 0 ≤ nI j ∧ (nI j).toNatClampNeg < 4 := of_eq_true (q_g (by omega) (by omega))
            by_cases e3 : k_I σ 40 0 r = 103
            · rw [if_pos e3, if_pos e3, P 8, h'.M.p.2.2.2.2.2.2.2.1, Option.bind_some, if_neg q_10, q, if_pos gj, if_pos gj, if_pos g20', if_pos (q_oc_C hoc), q_mn]
              rfl
            · rw [if_neg e3, if_neg e3, if_pos g20', if_pos (q_oc_C hoc)]
    · show k_I (q_cM _ _ _ _) 1 0 0 = 0
      have e0 : k_I (q_mdl (k_uI τ 1 0 0 0) r (q_hf σ 0 r S1 S2) (-1) (k_I σ 2 (q_hr σ r).1.toNatClampNeg 3)) 1 0 0 = 0 := by rw [q_mdl_Io (by decide), q_thr1]
      generalize q_mdl (k_uI τ 1 0 0 0) r (q_hf σ 0 r S1 S2) (-1) (k_I σ 2 (q_hr σ r).1.toNatClampNeg 3) = m' at *
      unfold q_cM q_cM0
      split
      · rw [q_thr0 _ (by omega), q_thr0 _ (by omega), e0]
      · split
        · rw [q_thr0 _ (by omega), q_thr0 _ (by omega), q_thr0 _ (by omega), e0]
        · rw [q_thr0 _ (by omega), q_thr0 _ (by omega), e0]
    · show k_J (q_cM _ _ _ _) 18 0 0 = _
      have e0 : k_J (q_mdl (k_uI τ 1 0 0 0) r (q_hf σ 0 r S1 S2) (-1) (k_I σ 2 (q_hr σ r).1.toNatClampNeg 3)) 18 0 0 = k_J τ 18 0 0 := by rw [q_mdl_J, q_JI]
      generalize q_mdl (k_uI τ 1 0 0 0) r (q_hf σ 0 r S1 S2) (-1) (k_I σ 2 (q_hr σ r).1.toNatClampNeg 3) = m' at *
      unfold q_cM q_cM0
      split
      · rw [q_JI, q_JI, e0]
      · split
        · rw [q_JI, q_JI, q_JI, e0]
        · rw [q_JI, q_JI, e0]
    · show q_sh τ (q_cM _ _ _ _)
      have e0 : q_sh τ (q_mdl (k_uI τ 1 0 0 0) r (q_hf σ 0 r S1 S2) (-1) (k_I σ 2 (q_hr σ r).1.toNatClampNeg 3)) := q_sh.tr (q_sh.rf.uI (by omega)) q_mdl_sh
      generalize q_mdl (k_uI τ 1 0 0 0) r (q_hf σ 0 r S1 S2) (-1) (k_I σ 2 (q_hr σ r).1.toNatClampNeg 3) = m' at *
      unfold q_cM q_cM0
      split
      · exact (e0.uI (by omega)).uI (by omega)
      · split
        · exact ((e0.uI (by omega)).uI (by omega)).uI (by omega)
        · exact (e0.uI (by omega)).uI (by omega)
    · have h' := hm.th (v := 0)
      have := q_app_I h' hr ((m38 _ h').trans hs2) hu2 S1 S2 rv (by rw [m40 _ h']; exact hrv)
      rw [m40 _ h'] at this
      exact this
  · -- the first decision
    have hs3 : k_I σ 38 0 r = 111 := by
      rcases st.2 with e | e | e
      · exact e
      · exact absurd e hs
      · exact absurd e hs2
    have p8 : k_P σ 5 r 8 = none := by
      rcases hI.rs hr with q | q | q | q
      · exact q.2.1
      · exact absurd q.1 hs
      · exact absurd q.1 hs2
      · exact absurd q.1 hs
    refine q_mut (H := q_stl σ r u (q_hf σ 0 r S1 S2) S1 S2 (k_I σ 2 (q_hr σ r).1.toNatClampNeg 3)) (v := q_hf σ 0 r S1 S2) (Mu := fun τ => q_mdl (k_uI τ 1 0 0 0) r (q_hf σ 0 r S1 S2) (-1) (k_I σ 2 (q_hr σ r).1.toNatClampNeg 3)) (T' := T) hI ?_ q_stl_sm (fun τ hm => ?_) (fun τ => ?_) (fun τ => ?_) (fun τ => q_sh.tr (q_sh.rf.uI (by omega)) q_mdl_sh) (fun τ hm => ?_)
    · unfold f_L_decide f_X7_decide f_X7_requireUndecided
      rw [q_reportAt hI.H hr]
      simp only [k_bc, k_bt]
      rw [st.1, if_neg hs]
      simp only
      rw [s1, Option.bind_some, s2, Option.bind_some, if_pos hq, if_neg hs2, set, Option.bind_some, if_pos trivial, if_pos (q_oc_C hoc)]
    · show f_X8_decide τ 0 (nI r) = _
      have h' := hm.th (v := 0)
      have e38 : k_I (k_uI τ 1 0 0 0) 38 0 r = 111 := (m38 _ h').trans hs3
      have n100 : ¬ (111 : Int32) = 100 := by decide
      have n101 : ¬ (111 : Int32) = 101 := by decide
      unfold f_X8_decide
      rw [q_isNone hm hr, Option.bind_some, if_pos rfl]
      dsimp only
      rw [h'.M.q.2.2.2.2.2.2.2.2.2.1, Option.bind_some, if_pos g20, q_c (n := r) (by omega), e38, if_neg n100, w1 _ h', Option.bind_some, w2 _ h', Option.bind_some, ← h'.Td.2.2.2, if_pos hq, if_pos g20', if_neg n101, h'.M.q.2.2.2.2.2.2.1, Option.bind_some, if_pos g20', Option.bind_some, Option.bind_some, dec _ h', Option.bind_some, if_pos rfl]
      dsimp only
      rw [q_mdl_P, h'.M.q.2.2.2.2.2.2.2.2.2.2.1, Option.bind_some, if_pos g20', q_mdl_r.2.1, if_pos (q_oc_C hoc)]
    · show k_I (q_mdl _ _ _ _ _) 1 0 0 = 0
      rw [q_mdl_Io (by decide), q_thr1]
    · show k_J (q_mdl _ _ _ _ _) 18 0 0 = _
      rw [q_mdl_J, q_JI]
    · have h' := hm.th (v := 0)
      have := q_first_I h' hr ((m38 _ h').trans hs3) hu2 (p := k_P σ 5 r 8) (b := -1) (Or.inl ⟨p8, rfl⟩) S1 S2
      rw [q_uP_id] at this
      exact this
