/-! ===== THE PURE PART: rules, votes, days (written by wip/whole/gen75.py) ===== -/
/-- what the minutes come to does not depend on what they do not speak of -/
theorem q_hs_c {a a' : k_S} {n N : Nat} (hN : N ≤ 20) (hE : ∀ j, j < n → ∃ r, r < N ∧ k_P a 7 j 0 = some r) (hS : ∀ j, j < n → k_P a' 7 j 0 = k_P a 7 j 0 ∧ ∀ k, k_I a' 7 j k = k_I a 7 j k) (hc : ∀ r, r < N → q_cl (q_hr a' r).1 (fun j => k_I a' 2 j 1) = q_cl (q_hr a r).1 (fun j => k_I a 2 j 1) ∧ k_I a' 5 r 3 = k_I a 5 r 3) :
    (∀ k, k < 20 → (q_hs0 a n).1 k = (q_hs0 a' n).1 k ∧ (N ≤ k → (q_hs0 a n).1 k = 45) ∧ ((q_hs0 a n).1 k ≠ 45 → (q_hs0 a n).2.1 k = (q_hs0 a' n).2.1 k) ∧ ((q_hs0 a n).1 k = 45 ∨ q_oc ((q_hs0 a n).1 k))) ∧ (q_hs0 a n).2.2 = (q_hs0 a' n).2.2 :=
  q_rs_c hN (fun _ _ => rfl) (fun _ _ => rfl) (fun r hr => ⟨(hc r hr).1.symm, (hc r hr).2.symm⟩) (fun j hj => by
    obtain ⟨r, h1, h2⟩ := hE j hj
    obtain ⟨g1, g2⟩ := hS j hj
    refine ⟨by rw [h2]; exact h1, by rw [g1], (g2 1).symm, (g2 2).symm, (g2 3).symm⟩)
theorem q_Mi.rules {a a' : k_S} (h : q_Mi a) (hz : k_Z a 15 ≤ 20) (A : ∀ l, l = 5 ∨ l = 7 ∨ l = 8 ∨ l = 10 ∨ l = 11 ∨ l = 15 ∨ l = 17 → q_al l a a') (hc : ∀ r, r < k_Z a 15 → q_cl (q_hr a' r).1 (fun j => k_I a' 2 j 1) = q_cl (q_hr a r).1 (fun j => k_I a 2 j 1)) : q_Mi a' := by
  obtain ⟨hE, hm, hk⟩ := h
  obtain ⟨C, Cm⟩ := q_hs_c (a := a) (a' := a') (n := k_Z a 17) hz hE (fun j hj => ⟨(A 7 (by omega)).2.1 j 0, fun k => (A 7 (by omega)).1 j k⟩) (fun r hr => ⟨hc r hr, (A 5 (by omega)).1 r 3⟩)
  refine ⟨?_, ?_, ?_⟩
  · unfold q_En at hE ⊢
    simp only [(A 17 (by omega)).2.2, (A 15 (by omega)).2.2, (A 7 (by omega)).2.1]
    exact hE
  · rw [(A 17 (by omega)).2.2, ← Cm, hm, (A 8 (by omega)).1]
  · intro k hk2
    obtain ⟨c1, c2, c3, c4⟩ := C k hk2
    obtain ⟨k1, k2⟩ := hk k hk2
    rw [(A 17 (by omega)).2.2, ← c1, (A 10 (by omega)).1, (A 11 (by omega)).1]
    exact ⟨k1, fun q => by rw [← c3 (by rw [k1]; exact q)]; exact k2 q⟩
theorem q_nw2_I {σ : k_S} {a1 a2 a3 a4 a5 : Int32} {j k : Nat} (hj : j ≠ k_N σ 2) : k_I (q_nw2 σ a1 a2 a3 a4 a5) 2 j k = k_I σ 2 j k := by
  simp [q_nw2, q_II, q_IJ, q_ID, q_IP, q_In, q_Ia, q_JI, q_JJ, q_JD, q_JP, q_Jn, q_Ja, q_PI, q_PJ, q_PD, q_PP, q_Pn, q_Pa, q_NI, q_NJ, q_ND, q_NP, q_Nn, q_Na, q_ZI, q_ZJ, q_ZD, q_ZP, q_Zn, q_Za, hj]
theorem q_nw2_n {σ : k_S} {a1 a2 a3 a4 a5 : Int32} : k_I (q_nw2 σ a1 a2 a3 a4 a5) 2 (k_N σ 2) 0 = a1 ∧ k_I (q_nw2 σ a1 a2 a3 a4 a5) 2 (k_N σ 2) 1 = a2 ∧ k_I (q_nw2 σ a1 a2 a3 a4 a5) 2 (k_N σ 2) 2 = a3 ∧ k_I (q_nw2 σ a1 a2 a3 a4 a5) 2 (k_N σ 2) 3 = a4 ∧ k_I (q_nw2 σ a1 a2 a3 a4 a5) 2 (k_N σ 2) 4 = a5 ∧ k_I (q_nw2 σ a1 a2 a3 a4 a5) 2 (k_N σ 2) 5 = 1001 := by
  simp [q_nw2, q_II, q_IJ, q_ID, q_IP, q_In, q_Ia, q_JI, q_JJ, q_JD, q_JP, q_Jn, q_Ja, q_PI, q_PJ, q_PD, q_PP, q_Pn, q_Pa, q_NI, q_NJ, q_ND, q_NP, q_Nn, q_Na, q_ZI, q_ZJ, q_ZD, q_ZP, q_Zn, q_Za]
theorem q_ru_s {ho tl rk : Nat → Int32} {i : Nat} : q_ru ho tl rk (i + 1) = if ho i = 0 ∨ tl i = 0 ∨ rk i < (q_ru ho tl rk i).2 then q_ru ho tl rk i else (nI i, rk i) := rfl
/-- a rule that begins later applies to no report -/
theorem q_nw2_hr {T : Nat} {σ m : k_S} (h : q_I T σ m) {a1 a2 a3 a4 : Int32} {f : Nat} (hf : T < f) (hf2 : f ≤ 1000) {r : Nat} (hr : r < k_Z σ 15) : q_cl (q_hr (q_nw2 σ a1 a2 a3 a4 (nI f)) r).1 (fun j => k_I (q_nw2 σ a1 a2 a3 a4 (nI f)) 2 j 1) = q_cl (q_hr σ r).1 (fun j => k_I σ 2 j 1) := by
  have hz := h.H.z12
  have hn := h.H.n2
  obtain ⟨-, -, -, -, -, -, h2, ⟨d, h3, h4⟩, -⟩ := h.rp hr
  have hT := h.Td.2.2.1
  have AA : ∀ l, l ≠ 2 → l ≠ 12 → q_al l σ (q_nw2 σ a1 a2 a3 a4 (nI f)) := fun l h1 h2 => by
    unfold q_nw2
    exact (((((((q_al.rf.new h1).uI h1).uI h1).uI h1).uI h1).uI h1).uI h1).ladd h2
  have e1 : q_hr (q_nw2 σ a1 a2 a3 a4 (nI f)) r = q_hr σ r := by
    unfold q_hr
    rw [q_nw2_Z (by decide), if_pos rfl, q_ru_s]
    have hday : k_I (q_nw2 σ a1 a2 a3 a4 (nI f)) 5 r 5 = nI d := by rw [(AA 5 (by decide) (by decide)).1, h2, h4]
    have hnew : q_ho (q_nw2 σ a1 a2 a3 a4 (nI f)) (k_Z σ 12) (k_I (q_nw2 σ a1 a2 a3 a4 (nI f)) 5 r 5) = 0 := by
      unfold q_ho
      rw [hday, ← hn, (q_nw2_n).2.2.2.2.1, if_pos (nI_lt (by omega) (by omega))]
    rw [if_pos (Or.inl hnew)]
    refine q_ru_c (fun j hj => ⟨?_, ?_, ?_⟩)
    · show q_ho _ j _ = q_ho σ j _
      unfold q_ho
      rw [q_nw2_I (by omega), q_nw2_I (by omega), (AA 5 (by decide) (by decide)).1]
    · show q_tl _ _ = q_tl _ _
      rw [q_nw2_I (by omega), (AA 5 (by decide) (by decide)).1]
    · show k_I _ 2 j 2 = _
      rw [q_nw2_I (by omega)]
  rw [e1]
  unfold q_cl
  rcases q_hr_1 hz r with e | ⟨j, hj, e⟩
  · rw [e, if_pos (by decide), if_pos (by decide)]
  · rw [e, if_neg (nI_pos (by omega)), if_neg (nI_pos (by omega)), q_c (by omega)]
    dsimp only
    simp only [q_nw2_I (show j ≠ k_N σ 2 by omega)]
theorem q_rwI {x a b : Int32} {na nb : Nat} (ha : a = nI na) (hb : b.toInt = nb) (hna : na < 2 ^ 31) (h : q_rw x a b) (h0 : 0 ≤ a) : ∃ j, na ≤ j ∧ j ≤ nb ∧ x = nI j := by
  obtain ⟨j, h1, h2⟩ := nI_of2 (M := b) (n := nb) hb (Int32.not_lt.mpr (Int32.le_trans h0 h.1)) h.2
  refine ⟨j, ?_, h1, h2⟩
  have := h.1
  have hb2 : b.toInt < 2 ^ 31 := by have := b.toInt_lt; omega
  rw [ha, h2, nI_leI hna (by omega)] at this
  exact this
theorem g_addRule {T : Nat} {σ : k_S} (hI : q_I T σ σ) (a1 a2 a3 a4 a5 : Int32) (h01 : a2 = 0 ∨ a2 = 1) : q_Ok (f_L_addRule σ 0 a1 a2 a3 a4 a5 0) (fun τ => f_X8_addRule τ 0 a1 a2 a3 a4 a5) := by
  have hz := hI.H.z12
  have hz5 := hI.H.z15
  have hn := hI.H.n2
  have hT := hI.Td.2.2.1
  by_cases d1 : ¬ q_rw a1 0 7
  · refine q_exc hI (k := 1) (b := 0) (by decide) ?_ ?_
    · unfold f_L_addRule f_X7_addRule
      rw [(q_rwb σ d1).1]
      simp [k_bc, k_bt]
    · show f_X8_addRule σ 0 a1 a2 a3 a4 a5 = _
      unfold f_X8_addRule
      rw [(q_rwb σ d1).2, Option.bind_some, if_pos rfl, q_fails]
      rfl
  replace d1 := Classical.not_not.mp d1
  by_cases d3 : ¬ q_rw a3 0 9
  · refine q_exc hI (k := 1) (b := 0) (by decide) ?_ ?_
    · unfold f_L_addRule f_X7_addRule
      rw [(q_rwg σ d1).1]
      simp only [k_bc, k_bt]
      rw [(q_rwb σ d3).1]
      simp
    · show f_X8_addRule σ 0 a1 a2 a3 a4 a5 = _
      unfold f_X8_addRule
      rw [(q_rwg σ d1).2, Option.bind_some, if_neg (by decide), (q_rwb σ d3).2, Option.bind_some, if_pos rfl, q_fails]
      rfl
  replace d3 := Classical.not_not.mp d3
  by_cases d4 : ¬ q_rw a4 1 60
  · refine q_exc hI (k := 1) (b := 0) (by decide) ?_ ?_
    · unfold f_L_addRule f_X7_addRule
      rw [(q_rwg σ d1).1]
      simp only [k_bc, k_bt]
      rw [(q_rwg σ d3).1]
      simp only
      rw [(q_rwb σ d4).1]
      simp
    · show f_X8_addRule σ 0 a1 a2 a3 a4 a5 = _
      unfold f_X8_addRule
      rw [(q_rwg σ d1).2, Option.bind_some, if_neg (by decide), (q_rwg σ d3).2, Option.bind_some, if_neg (by decide), (q_rwb σ d4).2, Option.bind_some, if_pos rfl, q_fails]
      rfl
  replace d4 := Classical.not_not.mp d4
  by_cases d5 : ¬ q_rw a5 (nI T + 1) 1000
  · refine q_exc hI (k := 1) (b := 0) (by decide) ?_ ?_
    · unfold f_L_addRule f_X7_addRule
      rw [(q_rwg σ d1).1]
      simp only [k_bc, k_bt]
      rw [(q_rwg σ d3).1]
      simp only
      rw [(q_rwg σ d4).1]
      simp only
      rw [hI.Td.1, (q_rwb σ d5).1]
      simp
    · show f_X8_addRule σ 0 a1 a2 a3 a4 a5 = _
      unfold f_X8_addRule
      rw [(q_rwg σ d1).2, Option.bind_some, if_neg (by decide), (q_rwg σ d3).2, Option.bind_some, if_neg (by decide), (q_rwg σ d4).2, Option.bind_some, if_neg (by decide), hI.Td.2.1, (q_rwb σ d5).2, Option.bind_some, if_pos rfl, q_fails]
      rfl
  replace d5 := Classical.not_not.mp d5
  by_cases hf : ¬ (k_Z σ 12 < 12)
  · have e8 : k_Z σ 12 = 12 := by omega
    refine q_exc hI (k := 2) (b := 0) (by decide) ?_ ?_
    · unfold f_L_addRule f_X7_addRule
      rw [(q_rwg σ d1).1]
      simp only [k_bc, k_bt]
      rw [(q_rwg σ d3).1]
      simp only
      rw [(q_rwg σ d4).1]
      simp only
      rw [hI.Td.1, (q_rwg σ d5).1]
      simp only
      rw [if_pos hI.H.p0, e8, show (12 : Int32) = nI 12 from rfl, q_roomb σ (by omega)]
      simp
    · show f_X8_addRule σ 0 a1 a2 a3 a4 a5 = _
      unfold f_X8_addRule
      rw [(q_rwg σ d1).2, Option.bind_some, if_neg (by decide), (q_rwg σ d3).2, Option.bind_some, if_neg (by decide), (q_rwg σ d4).2, Option.bind_some, if_neg (by decide), hI.Td.2.1, (q_rwg σ d5).2, Option.bind_some, if_neg (by decide), hI.M.R, e8, if_pos (by rfl), q_fails]
      rfl
  replace hf := Classical.not_not.mp hf
  refine q_mut (H := q_nw2 σ a1 a2 a3 a4 a5) (v := nI (k_Z σ 12)) (Mu := fun τ => k_uI (k_uI (k_uI (k_uI (k_uI (k_uI (k_uI (k_uI τ 1 0 0 0) 20 0 (k_Z σ 12) a1) 28 0 (k_Z σ 12) a2) 21 0 (k_Z σ 12) a3) 22 0 (k_Z σ 12) a4) 23 0 (k_Z σ 12) a5) 24 0 (k_Z σ 12) 2147483647) 1 0 10 (nI (k_Z σ 12 + 1))) (T' := T) hI ?_ ((((((((q_sm.rf.new (by omega)).uI (by omega)).uI (by omega)).uI (by omega)).uI (by omega)).uI (by omega)).uI (by omega)).ladd (by omega)) (fun τ hm => ?_) (fun τ => ?_) (fun τ => rfl) (fun τ => (((((((q_sh.rf.uI (by omega)).uI (by omega)).uI (by omega)).uI (by omega)).uI (by omega)).uI (by omega)).uI (by omega)).uI (by omega)) (fun τ hm => ?_)
  · unfold f_L_addRule f_X7_addRule
    rw [(q_rwg σ d1).1]
    simp only [k_bc, k_bt]
    rw [(q_rwg σ d3).1]
    simp only
    rw [(q_rwg σ d4).1]
    simp only
    rw [hI.Td.1, (q_rwg σ d5).1]
    simp only
    have hrm : f_X7_requireRoom σ (nI (k_Z σ 12)) 12 = some (.inl ()) := q_room σ (b := 12) hf (by omega)
    rw [if_pos hI.H.p0, hrm]
    simp only
    unfold f_X3_init
    rw [if_pos h01, Option.bind_some]
    dsimp only
    have e1 : k_Z (k_uI (k_uI (k_uI (k_uI (k_uI (k_uI (k_new σ 2) 2 (k_N σ 2) 0 a1) 2 (k_N σ 2) 1 a2) 2 (k_N σ 2) 2 a3) 2 (k_N σ 2) 3 a4) 2 (k_N σ 2) 4 a5) 2 (k_N σ 2) 5 1001) 12 = k_Z σ 12 := by simp [q_II, q_IJ, q_ID, q_IP, q_In, q_Ia, q_JI, q_JJ, q_JD, q_JP, q_Jn, q_Ja, q_PI, q_PJ, q_PD, q_PP, q_Pn, q_Pa, q_NI, q_NJ, q_ND, q_NP, q_Nn, q_Na, q_ZI, q_ZJ, q_ZD, q_ZP, q_Zn, q_Za]
    have e2 : k_P (k_uI (k_uI (k_uI (k_uI (k_uI (k_uI (k_new σ 2) 2 (k_N σ 2) 0 a1) 2 (k_N σ 2) 1 a2) 2 (k_N σ 2) 2 a3) 2 (k_N σ 2) 3 a4) 2 (k_N σ 2) 4 a5) 2 (k_N σ 2) 5 1001) 0 0 0 = some 0 := by simp [q_II, q_IJ, q_ID, q_IP, q_In, q_Ia, q_JI, q_JJ, q_JD, q_JP, q_Jn, q_Ja, q_PI, q_PJ, q_PD, q_PP, q_Pn, q_Pa, q_NI, q_NJ, q_ND, q_NP, q_Nn, q_Na, q_ZI, q_ZJ, q_ZD, q_ZP, q_Zn, q_Za]; exact hI.H.p0
    have e3 : k_ladd (k_uI (k_uI (k_uI (k_uI (k_uI (k_uI (k_new σ 2) 2 (k_N σ 2) 0 a1) 2 (k_N σ 2) 1 a2) 2 (k_N σ 2) 2 a3) 2 (k_N σ 2) 3 a4) 2 (k_N σ 2) 4 a5) 2 (k_N σ 2) 5 1001) 12 (k_N σ 2) = q_nw2 σ a1 a2 a3 a4 a5 := rfl
    rw [e1, if_pos (by omega), e2, if_pos rfl, e3, q_nw2_Z (by decide), if_pos rfl, nI_pred]
  · show f_X8_addRule τ 0 a1 a2 a3 a4 a5 = _
    unfold f_X8_addRule
    have k8 : ¬ nI (k_Z σ 12) = 12 := fun q => by
      have := (nI_eq (a := k_Z σ 12) (b := 12) (by omega) (by omega)).mp q
      omega
    have gb : 0 ≤ nI (k_Z σ 12) ∧ (nI (k_Z σ 12)).toNatClampNeg < 12 := of_eq_true (q_g (by omega) (by omega))
    rw [(q_rwg σ d1).2, Option.bind_some, if_neg (by decide), (q_rwg σ d3).2, Option.bind_some, if_neg (by decide), (q_rwg σ d4).2, Option.bind_some, if_neg (by decide), hm.Td.2.1, (q_rwg σ d5).2, Option.bind_some, if_neg (by decide), hm.M.R, if_neg k8, hm.M.p.1, Option.bind_some, if_pos gb, hm.M.p.2.2.2.2.2.2.2.2, Option.bind_some, if_pos gb, if_pos h01, hm.M.p.2.1, Option.bind_some, if_pos gb, hm.M.p.2.2.1, Option.bind_some, if_pos gb, hm.M.p.2.2.2.1, Option.bind_some, if_pos gb, hm.M.p.2.2.2.2.1, Option.bind_some, if_pos gb, q_c (by omega), nI_1, nI_pred]
  · rw [q_thr0 _ (by omega), q_thr0 _ (by omega), q_thr0 _ (by omega), q_thr0 _ (by omega), q_thr0 _ (by omega), q_thr0 _ (by omega), q_thr0 _ (by omega), q_thr1]
  · have hm := hm.th (v := 0)
    obtain ⟨f, f1, f2, f3⟩ := q_rwI (na := T + 1) (nb := 1000) (nI_1 T) (by decide) (by omega) d5 (by rw [nI_1]; exact q_0 (by omega))
    obtain ⟨dd, g1, g2, g3⟩ := q_rwI (na := 1) (nb := 60) rfl (by decide) (by omega) d4 (by decide)
    have z12 : k_Z (q_nw2 σ a1 a2 a3 a4 a5) 12 = k_Z σ 12 + 1 := by rw [q_nw2_Z (by decide), if_pos rfl]
    have zo : ∀ l, l ≠ 2 → l ≠ 12 → k_Z (q_nw2 σ a1 a2 a3 a4 a5) l = k_Z σ l := fun l h1 h2 => by rw [q_nw2_Z h1, if_neg h2]
    have AA : ∀ l, l ≠ 2 → l ≠ 12 → q_al l σ (q_nw2 σ a1 a2 a3 a4 a5) := fun l h1 h2 => by
      unfold q_nw2
      exact (((((((q_al.rf.new h1).uI h1).uI h1).uI h1).uI h1).uI h1).uI h1).ladd h2
    refine ⟨q_nw2_H hm.H hf, ?_, ?_, ?_, hm.Us.ag (fun l hl => AA l (by omega) (by omega)) (fun l hl => by (repeat first | exact q_al.rf | exact q_al.rf.uI (by omega) | refine q_al.uI ?_ (by omega) | refine q_al.uJ ?_ | refine q_al.uP ?_ (by omega) | refine q_al.new ?_ (by omega) | refine q_al.ladd ?_ (by omega))), hm.Bo.ag (fun l hl => AA l (by omega) (by omega)) (fun l hl => by (repeat first | exact q_al.rf | exact q_al.rf.uI (by omega) | refine q_al.uI ?_ (by omega) | refine q_al.uJ ?_ | refine q_al.uP ?_ (by omega) | refine q_al.new ?_ (by omega) | refine q_al.ladd ?_ (by omega))), hm.Vo.ag (fun l hl => AA l (by omega) (by omega)) (fun l hl => by (repeat first | exact q_al.rf | exact q_al.rf.uI (by omega) | refine q_al.uI ?_ (by omega) | refine q_al.uJ ?_ | refine q_al.uP ?_ (by omega) | refine q_al.new ?_ (by omega) | refine q_al.ladd ?_ (by omega))), hm.Re.ag (Nat.le_refl _) (Nat.le_of_eq (zo 13 (by decide) (by decide)).symm) (Nat.le_of_eq (zo 14 (by decide) (by decide)).symm) (fun l hl => AA l (by omega) (by omega)) (fun l hl => by (repeat first | exact q_al.rf | exact q_al.rf.uI (by omega) | refine q_al.uI ?_ (by omega) | refine q_al.uJ ?_ | refine q_al.uP ?_ (by omega) | refine q_al.new ?_ (by omega) | refine q_al.ladd ?_ (by omega))), hm.Ro.ag (fun l hl => AA l (by omega) (by omega)), hm.Sn.ag (Nat.le_refl _) (fun l hl => AA l (by omega) (by omega)), hm.Sr.ag (fun l hl => AA l (by omega) (by omega)) (fun l hl => by (repeat first | exact q_al.rf | exact q_al.rf.uI (by omega) | refine q_al.uI ?_ (by omega) | refine q_al.uJ ?_ | refine q_al.uP ?_ (by omega) | refine q_al.new ?_ (by omega) | refine q_al.ladd ?_ (by omega))), hm.Sd.ag (Nat.le_refl _) (by have := hm.Td.2.2.1; omega) (fun l hl => AA l (by omega) (by omega)) (fun l hl => by (repeat first | exact q_al.rf | exact q_al.rf.uI (by omega) | refine q_al.uI ?_ (by omega) | refine q_al.uJ ?_ | refine q_al.uP ?_ (by omega) | refine q_al.new ?_ (by omega) | refine q_al.ladd ?_ (by omega))), hm.Sj.ag (fun l hl => AA l (by omega) (by omega)) rfl, hm.Ct.ag (zo 15 (by decide) (by decide)) (by simp [q_II, q_IJ, q_ID, q_IP, q_In, q_Ia, q_JI, q_JJ, q_JD, q_JP, q_Jn, q_Ja, q_PI, q_PJ, q_PD, q_PP, q_Pn, q_Pa, q_NI, q_NJ, q_ND, q_NP, q_Nn, q_Na, q_ZI, q_ZJ, q_ZD, q_ZP, q_Zn, q_Za]) (by simp [q_II, q_IJ, q_ID, q_IP, q_In, q_Ia, q_JI, q_JJ, q_JD, q_JP, q_Jn, q_Ja, q_PI, q_PJ, q_PD, q_PP, q_Pn, q_Pa, q_NI, q_NJ, q_ND, q_NP, q_Nn, q_Na, q_ZI, q_ZJ, q_ZD, q_ZP, q_Zn, q_Za]) (fun l hl => by (repeat first | exact q_al.rf | exact q_al.rf.uI (by omega) | refine q_al.uI ?_ (by omega) | refine q_al.uJ ?_ | refine q_al.uP ?_ (by omega) | refine q_al.new ?_ (by omega) | refine q_al.ladd ?_ (by omega))), hm.De.ag (fun l hl => AA l (by omega) (by omega)) (by simp [q_II, q_IJ, q_ID, q_IP, q_In, q_Ia, q_JI, q_JJ, q_JD, q_JP, q_Jn, q_Ja, q_PI, q_PJ, q_PD, q_PP, q_Pn, q_Pa, q_NI, q_NJ, q_ND, q_NP, q_Nn, q_Na, q_ZI, q_ZJ, q_ZD, q_ZP, q_Zn, q_Za]) (fun l hl => by (repeat first | exact q_al.rf | exact q_al.rf.uI (by omega) | refine q_al.uI ?_ (by omega) | refine q_al.uJ ?_ | refine q_al.uP ?_ (by omega) | refine q_al.new ?_ (by omega) | refine q_al.ladd ?_ (by omega))), hm.Mi.rules hz5 (fun l hl => AA l (by omega) (by omega)) (fun r hr => by rw [f3]; exact q_nw2_hr hm (by omega) f2 hr)⟩
    · rw [z12, zo 13 (by decide) (by decide), zo 14 (by decide) (by decide), zo 15 (by decide) (by decide)]
      exact ((((((hm.M.uI (Or.inl (by decide))).uI (Or.inl (by decide))).uI (Or.inl (by decide))).uI (Or.inl (by decide))).uI (Or.inl (by decide))).uI (Or.inl (by decide))).incR (by omega)
    · exact q_sc hm.Td ((AA 0 (by decide) (by decide)).1 0 8) (by simp [q_II, q_IJ, q_ID, q_IP, q_In, q_Ia, q_JI, q_JJ, q_JD, q_JP, q_Jn, q_Ja, q_PI, q_PJ, q_PD, q_PP, q_Pn, q_Pa, q_NI, q_NJ, q_ND, q_NP, q_Nn, q_Na, q_ZI, q_ZJ, q_ZD, q_ZP, q_Zn, q_Za]) ((AA 0 (by decide) (by decide)).1 0 9) (by simp [q_II, q_IJ, q_ID, q_IP, q_In, q_Ia, q_JI, q_JJ, q_JD, q_JP, q_Jn, q_Ja, q_PI, q_PJ, q_PD, q_PP, q_Pn, q_Pa, q_NI, q_NJ, q_ND, q_NP, q_Nn, q_Na, q_ZI, q_ZJ, q_ZD, q_ZP, q_Zn, q_Za])
    · intro i hi
      rw [z12] at hi
      have r20 : k_I (k_uI (k_uI (k_uI (k_uI (k_uI (k_uI (k_uI (k_uI τ 1 0 0 0) 20 0 (k_Z σ 12) a1) 28 0 (k_Z σ 12) a2) 21 0 (k_Z σ 12) a3) 22 0 (k_Z σ 12) a4) 23 0 (k_Z σ 12) a5) 24 0 (k_Z σ 12) 2147483647) 1 0 10 (nI (k_Z σ 12 + 1))) 20 0 i = if i = k_Z σ 12 then a1 else k_I (k_uI τ 1 0 0 0) 20 0 i := by simp [q_II, q_IJ, q_ID, q_IP, q_In, q_Ia, q_JI, q_JJ, q_JD, q_JP, q_Jn, q_Ja, q_PI, q_PJ, q_PD, q_PP, q_Pn, q_Pa, q_NI, q_NJ, q_ND, q_NP, q_Nn, q_Na, q_ZI, q_ZJ, q_ZD, q_ZP, q_Zn, q_Za]
      have r28 : k_I (k_uI (k_uI (k_uI (k_uI (k_uI (k_uI (k_uI (k_uI τ 1 0 0 0) 20 0 (k_Z σ 12) a1) 28 0 (k_Z σ 12) a2) 21 0 (k_Z σ 12) a3) 22 0 (k_Z σ 12) a4) 23 0 (k_Z σ 12) a5) 24 0 (k_Z σ 12) 2147483647) 1 0 10 (nI (k_Z σ 12 + 1))) 28 0 i = if i = k_Z σ 12 then a2 else k_I (k_uI τ 1 0 0 0) 28 0 i := by simp [q_II, q_IJ, q_ID, q_IP, q_In, q_Ia, q_JI, q_JJ, q_JD, q_JP, q_Jn, q_Ja, q_PI, q_PJ, q_PD, q_PP, q_Pn, q_Pa, q_NI, q_NJ, q_ND, q_NP, q_Nn, q_Na, q_ZI, q_ZJ, q_ZD, q_ZP, q_Zn, q_Za]
      have r21 : k_I (k_uI (k_uI (k_uI (k_uI (k_uI (k_uI (k_uI (k_uI τ 1 0 0 0) 20 0 (k_Z σ 12) a1) 28 0 (k_Z σ 12) a2) 21 0 (k_Z σ 12) a3) 22 0 (k_Z σ 12) a4) 23 0 (k_Z σ 12) a5) 24 0 (k_Z σ 12) 2147483647) 1 0 10 (nI (k_Z σ 12 + 1))) 21 0 i = if i = k_Z σ 12 then a3 else k_I (k_uI τ 1 0 0 0) 21 0 i := by simp [q_II, q_IJ, q_ID, q_IP, q_In, q_Ia, q_JI, q_JJ, q_JD, q_JP, q_Jn, q_Ja, q_PI, q_PJ, q_PD, q_PP, q_Pn, q_Pa, q_NI, q_NJ, q_ND, q_NP, q_Nn, q_Na, q_ZI, q_ZJ, q_ZD, q_ZP, q_Zn, q_Za]
      have r22 : k_I (k_uI (k_uI (k_uI (k_uI (k_uI (k_uI (k_uI (k_uI τ 1 0 0 0) 20 0 (k_Z σ 12) a1) 28 0 (k_Z σ 12) a2) 21 0 (k_Z σ 12) a3) 22 0 (k_Z σ 12) a4) 23 0 (k_Z σ 12) a5) 24 0 (k_Z σ 12) 2147483647) 1 0 10 (nI (k_Z σ 12 + 1))) 22 0 i = if i = k_Z σ 12 then a4 else k_I (k_uI τ 1 0 0 0) 22 0 i := by simp [q_II, q_IJ, q_ID, q_IP, q_In, q_Ia, q_JI, q_JJ, q_JD, q_JP, q_Jn, q_Ja, q_PI, q_PJ, q_PD, q_PP, q_Pn, q_Pa, q_NI, q_NJ, q_ND, q_NP, q_Nn, q_Na, q_ZI, q_ZJ, q_ZD, q_ZP, q_Zn, q_Za]
      have r23 : k_I (k_uI (k_uI (k_uI (k_uI (k_uI (k_uI (k_uI (k_uI τ 1 0 0 0) 20 0 (k_Z σ 12) a1) 28 0 (k_Z σ 12) a2) 21 0 (k_Z σ 12) a3) 22 0 (k_Z σ 12) a4) 23 0 (k_Z σ 12) a5) 24 0 (k_Z σ 12) 2147483647) 1 0 10 (nI (k_Z σ 12 + 1))) 23 0 i = if i = k_Z σ 12 then a5 else k_I (k_uI τ 1 0 0 0) 23 0 i := by simp [q_II, q_IJ, q_ID, q_IP, q_In, q_Ia, q_JI, q_JJ, q_JD, q_JP, q_Jn, q_Ja, q_PI, q_PJ, q_PD, q_PP, q_Pn, q_Pa, q_NI, q_NJ, q_ND, q_NP, q_Nn, q_Na, q_ZI, q_ZJ, q_ZD, q_ZP, q_Zn, q_Za]
      have r24 : k_I (k_uI (k_uI (k_uI (k_uI (k_uI (k_uI (k_uI (k_uI τ 1 0 0 0) 20 0 (k_Z σ 12) a1) 28 0 (k_Z σ 12) a2) 21 0 (k_Z σ 12) a3) 22 0 (k_Z σ 12) a4) 23 0 (k_Z σ 12) a5) 24 0 (k_Z σ 12) 2147483647) 1 0 10 (nI (k_Z σ 12 + 1))) 24 0 i = if i = k_Z σ 12 then 2147483647 else k_I (k_uI τ 1 0 0 0) 24 0 i := by simp [q_II, q_IJ, q_ID, q_IP, q_In, q_Ia, q_JI, q_JJ, q_JD, q_JP, q_Jn, q_Ja, q_PI, q_PJ, q_PD, q_PP, q_Pn, q_Pa, q_NI, q_NJ, q_ND, q_NP, q_Nn, q_Na, q_ZI, q_ZJ, q_ZD, q_ZP, q_Zn, q_Za]
      rw [r20, r28, r21, r22, r23, r24]
      by_cases e : i = k_Z σ 12
      · rw [if_pos e, if_pos e, if_pos e, if_pos e, if_pos e, if_pos e, e, ← hn]
        obtain ⟨n0, n1, n2, n3, n4, n5⟩ := q_nw2_n (σ := σ) (a1 := a1) (a2 := a2) (a3 := a3) (a4 := a4) (a5 := a5)
        exact ⟨n0, n1, n2, d3.1, n3, ⟨dd, g1, g2, g3⟩, n4, ⟨f, f2, f3⟩, Or.inr ⟨rfl, n5⟩⟩
      · rw [if_neg e, if_neg e, if_neg e, if_neg e, if_neg e, if_neg e, q_nw2_I (by omega), q_nw2_I (by omega), q_nw2_I (by omega), q_nw2_I (by omega), q_nw2_I (by omega), q_nw2_I (by omega)]
        exact hm.Ru i (by omega)
