/-! ===== THE PURE PART: more calls that ask (written by wip/whole/gen70.py) ===== -/
theorem q_10 : ¬ (1 : Int32) = 0 := by decide
theorem q_thI {σ : k_S} {v : Int32} {l i k : Nat} (h : l ≠ 1) : k_I (k_uI σ 1 0 0 v) l i k = k_I σ l i k := by
  rw [q_II, if_neg (by omega)]
theorem q_isNone {T : Nat} {a m : k_S} (h : q_I T a m) {r : Nat} (hr : r < k_Z a 15) : f_X8_isNone m 0 (nI r) = some (0, k_uI m 1 0 0 0) := by
  unfold f_X8_isNone
  rw [q_isReport h.M hr, Option.bind_some, if_neg (by decide), if_pos (by decide)]
theorem q_isNoneb {T : Nat} {a m : k_S} (h : q_I T a m) {x : Int32} (hx : x < 0 ∨ nI (k_Z a 15) ≤ x) : f_X8_isNone m 0 x = some (1, k_uI m 1 0 0 1) := by
  unfold f_X8_isNone
  rw [q_isReportb h.M hx, Option.bind_some, if_pos rfl, if_neg (by decide)]
theorem q_isOpen {T : Nat} {a m : k_S} (h : q_I T a m) {r : Nat} (hr : r < k_Z a 15) : f_X8_isOpen m 0 (nI r) = if k_I m 38 0 r = 100 then some (0, k_uI m 1 0 0 0) else some (1, k_uI m 1 0 0 2) := by
  have hz := h.H.z15
  unfold f_X8_isOpen
  rw [q_isReport h.M hr, Option.bind_some, if_neg (by decide), h.M.q.2.2.2.2.2.2.2.2.2.1, Option.bind_some, if_pos (of_eq_true (q_g (by omega : r < 20) (by omega))), q_c (by omega)]
  split
  · rw [if_pos (by decide)]
  · rw [if_neg (by decide)]
theorem q_isOpenb {T : Nat} {a m : k_S} (h : q_I T a m) {x : Int32} (hx : x < 0 ∨ nI (k_Z a 15) ≤ x) : f_X8_isOpen m 0 x = some (1, k_uI m 1 0 0 1) := by
  unfold f_X8_isOpen
  rw [q_isReportb h.M hx, Option.bind_some, if_pos rfl, if_neg (by decide)]
theorem q_I.st {T : Nat} {a m : k_S} (h : q_I T a m) {r : Nat} (hr : r < k_Z a 15) : k_I a 5 r 7 = k_I m 38 0 r ∧ (k_I m 38 0 r = 111 ∨ k_I m 38 0 r = 100 ∨ k_I m 38 0 r = 101) := by
  refine ⟨(h.rp hr).2.2.2.2.2.2.2.2.2.1, ?_⟩
  rcases h.rs hr with q | q | q | q
  · exact Or.inl q.1
  · exact Or.inr (Or.inl q.1)
  · exact Or.inr (Or.inr q.1)
  · exact Or.inr (Or.inl q.1)
theorem q_I.stC {T : Nat} {a m : k_S} (h : q_I T a m) {r : Nat} (hr : r < k_Z a 15) : k_isC (k_I m 38 0 r) = true := by
  rcases (h.st hr).2 with e | e | e <;> rw [e] <;> decide
theorem q_I.p6 {T : Nat} {a m : k_S} (h : q_I T a m) {r : Nat} (hr : r < k_Z a 15) : k_P a 5 r 6 = some r := (h.rp hr).2.2.2.2.2.2.2.2.1
theorem g_threshold {T : Nat} {σ : k_S} (hI : q_I T σ σ) (x : Int32) : q_Ok (f_L_threshold σ 0 x 0) (fun τ => f_X8_threshold τ 0 x) := by
  have hz := hI.H.z14
  rcases q_ix x (n := k_Z σ 14) (by omega) with ⟨r, hr, rfl⟩ | hx
  · refine q_query hI (v := k_I σ 4 r 1) ?_ (fun τ hm => ?_)
    · unfold f_L_threshold f_X7_threshold
      rw [if_pos hI.H.p2, q_rig σ hr (by omega)]
      simp only [k_bc, k_bt]
      rw [if_pos (of_eq_true (q_g2 hr (by omega))), q_c (by omega), hI.H.li (by omega) (by omega) hr, Option.bind_some]
    · show f_X8_threshold τ 0 (nI r) = _
      have h' := hm.th (v := 0)
      unfold f_X8_threshold
      rw [hm.M.B, q_btg _ hr (by omega), Option.bind_some, if_neg (by decide), hm.M.p.2.2.2.2.2.2.2.1, Option.bind_some, if_pos (of_eq_true (q_g (by omega : r < 4) (by omega))), q_c (by omega), (hm.Bo r hr).2.1]
  · refine q_exc hI (k := 1) (b := 0) (by decide) ?_ ?_
    · unfold f_L_threshold f_X7_threshold
      rw [if_pos hI.H.p2, q_rib σ hx]
      simp [k_bc, k_bt]
    · show f_X8_threshold σ 0 x = _
      have h' := hI.th (v := 0)
      unfold f_X8_threshold
      rw [hI.M.B, q_btb _ hx (by omega), Option.bind_some, if_pos rfl, q_fails]
      rfl
theorem g_state {T : Nat} {σ : k_S} (hI : q_I T σ σ) (x : Int32) : q_Ok (f_L_state σ 0 x 0) (fun τ => f_X8_state τ 0 x) := by
  have hz := hI.H.z15
  have hz2 := hI.H.z15
  rcases q_ix x (n := k_Z σ 15) (by omega) with ⟨r, hr, rfl⟩ | hx
  · refine q_query hI (v := k_I σ 5 r 7) ?_ (fun τ hm => ?_)
    · unfold f_L_state f_X7_state
      rw [q_reportAt hI.H hr]
      simp only [k_bc, k_bt]
      rw [if_pos (by rw [(hI.st hr).1]; exact hI.stC hr)]
    · show f_X8_state τ 0 (nI r) = _
      have h' := hm.th (v := 0)
      unfold f_X8_state
      rw [q_isReport h'.M hr, Option.bind_some, if_neg (by decide), hm.M.q.2.2.2.2.2.2.2.2.2.1, Option.bind_some, if_pos (of_eq_true (q_g (by omega : r < 20) (by omega))), q_c (by omega), if_pos (hm.stC hr), (hm.st hr).1]
  · refine q_exc hI (k := 1) (b := 0) (by decide) ?_ ?_
    · unfold f_L_state f_X7_state
      rw [q_reportAtb hI.H hx]
      simp [k_bc, k_bt]
    · show f_X8_state σ 0 x = _
      have h' := hI.th (v := 0)
      unfold f_X8_state
      rw [q_isReportb h'.M hx, Option.bind_some, if_pos rfl, q_fails]
      rfl
theorem g_weightFor {T : Nat} {σ : k_S} (hI : q_I T σ σ) (x : Int32) : q_Ok (f_L_weightFor σ 0 x 0) (fun τ => f_X8_weightFor τ 0 x) := by
  have hz := hI.H.z15
  have hz2 := hI.H.z15
  rcases q_ix x (n := k_Z σ 15) (by omega) with ⟨r, hr, rfl⟩ | hx
  · refine q_query hI (v := q_sI (fun u => if (k_I σ 9 r u) < 0 then 0 else (k_I σ 9 r u)) 8) ?_ (fun τ hm => ?_)
    · unfold f_L_weightFor f_X7_weightFor
      rw [q_reportAt hI.H hr]
      simp only [k_bc, k_bt]
      rw [q_sumFor (hI.p6 hr), Option.bind_some]
    · show f_X8_weightFor τ 0 (nI r) = _
      have h' := hm.th (v := 0)
      unfold f_X8_weightFor
      rw [q_isNone hm hr, Option.bind_some, if_pos rfl, q_weight h'.M (by omega), Option.bind_some, h'.w1 hr]
  · refine q_exc hI (k := 1) (b := 0) (by decide) ?_ ?_
    · unfold f_L_weightFor f_X7_weightFor
      rw [q_reportAtb hI.H hx]
      simp [k_bc, k_bt]
    · show f_X8_weightFor σ 0 x = _
      have h' := hI.th (v := 0)
      unfold f_X8_weightFor
      rw [q_isNoneb hI hx, Option.bind_some]
      exact if_neg q_10
theorem g_weightAgainst {T : Nat} {σ : k_S} (hI : q_I T σ σ) (x : Int32) : q_Ok (f_L_weightAgainst σ 0 x 0) (fun τ => f_X8_weightAgainst τ 0 x) := by
  have hz := hI.H.z15
  have hz2 := hI.H.z15
  rcases q_ix x (n := k_Z σ 15) (by omega) with ⟨r, hr, rfl⟩ | hx
  · refine q_query hI (v := q_sI (fun u => if (-(k_I σ 9 r u)) < 0 then 0 else (-(k_I σ 9 r u))) 8) ?_ (fun τ hm => ?_)
    · unfold f_L_weightAgainst f_X7_weightAgainst
      rw [q_reportAt hI.H hr]
      simp only [k_bc, k_bt]
      rw [q_sumAgainst (hI.p6 hr), Option.bind_some]
    · show f_X8_weightAgainst τ 0 (nI r) = _
      have h' := hm.th (v := 0)
      unfold f_X8_weightAgainst
      rw [q_isNone hm hr, Option.bind_some, if_pos rfl, q_weight h'.M (by omega), Option.bind_some, h'.w2 hr]
  · refine q_exc hI (k := 1) (b := 0) (by decide) ?_ ?_
    · unfold f_L_weightAgainst f_X7_weightAgainst
      rw [q_reportAtb hI.H hx]
      simp [k_bc, k_bt]
    · show f_X8_weightAgainst σ 0 x = _
      have h' := hI.th (v := 0)
      unfold f_X8_weightAgainst
      rw [q_isNoneb hI hx, Option.bind_some]
      exact if_neg q_10
theorem g_precedent {T : Nat} {σ : k_S} (hI : q_I T σ σ) (x : Int32) : q_Ok (f_L_precedent σ 0 x 0) (fun τ => f_X8_precedent τ 0 x) := by
  have hz := hI.H.z15
  rcases q_ix x (n := k_Z σ 15) (by omega) with ⟨r, hr, rfl⟩ | hx
  · rcases q_hp_1 (σ := σ) 0 r with e | ⟨j, hj, e⟩
    · refine q_exc hI (k := 2) (b := 0) (by decide) ?_ ?_
      · unfold f_L_precedent f_X7_precedent
        rw [q_reportAt hI.H hr]
        simp only [k_bc, k_bt]
        rw [hI.H.p6, Option.bind_some, q_precedentFor hI.H (by omega) hI.ch (by omega) (hI.nu r hr), Option.bind_some, e, if_pos rfl]
        simp
      · show f_X8_precedent σ 0 (nI r) = _
        have h' := hI.th (v := 0)
        unfold f_X8_precedent
        rw [q_isNone hI hr, Option.bind_some, if_pos rfl, q_precedentOf h'.M (by omega), ← h'.hp hr, Option.bind_some, e, if_neg (by decide), q_fails]
        rfl
    · refine q_query hI (v := nI j) ?_ (fun τ hm => ?_)
      · unfold f_L_precedent f_X7_precedent
        rw [q_reportAt hI.H hr]
        simp only [k_bc, k_bt]
        have : ¬ nI j = -1 := fun q => nI_pos (n := j) (by omega) (by rw [q]; decide)
        rw [hI.H.p6, Option.bind_some, q_precedentFor hI.H (by omega) hI.ch (by omega) (hI.nu r hr), Option.bind_some, e, if_neg this]
      · show f_X8_precedent τ 0 (nI r) = _
        have h' := hm.th (v := 0)
        unfold f_X8_precedent
        rw [q_isNone hm hr, Option.bind_some, if_pos rfl, q_precedentOf h'.M (by omega), ← h'.hp hr, Option.bind_some, e, if_pos (q_0 (by omega)), Option.bind_some]
  · refine q_exc hI (k := 1) (b := 0) (by decide) ?_ ?_
    · unfold f_L_precedent f_X7_precedent
      rw [q_reportAtb hI.H hx]
      simp [k_bc, k_bt]
    · show f_X8_precedent σ 0 x = _
      unfold f_X8_precedent
      rw [q_isNoneb hI hx, Option.bind_some]
      exact if_neg q_10
theorem q_I.out {T : Nat} {a m : k_S} (h : q_I T a m) {r : Nat} (hr : r < k_Z a 15) (hs : k_I m 38 0 r = 100) : k_I a 10 0 r = k_I m 39 0 r ∧ q_oc (k_I m 39 0 r) := by
  rcases h.rs hr with q | q | q | q
  · rw [q.1] at hs; exact absurd hs (by decide)
  · exact ⟨q.2.1, q.2.2.1⟩
  · rw [q.1] at hs; exact absurd hs (by decide)
  · exact ⟨q.2.1, q.2.2.1⟩
theorem g_outcome {T : Nat} {σ : k_S} (hI : q_I T σ σ) (x : Int32) : q_Ok (f_L_outcome σ 0 x 0) (fun τ => f_X8_outcome τ 0 x) := by
  have hz := hI.H.z15
  rcases q_ix x (n := k_Z σ 15) (by omega) with ⟨r, hr, rfl⟩ | hx
  · by_cases hs : k_I σ 38 0 r = 100
    · have ho := hI.out hr hs
      refine q_query hI (v := k_I σ 10 0 r) ?_ (fun τ hm => ?_)
      · unfold f_L_outcome f_X7_outcome f_X7_requireStanding
        rw [q_reportAt hI.H hr]
        simp only [k_bc, k_bt]
        rw [if_pos (by rw [(hI.st hr).1]; exact hs)]
        simp only
        rw [hI.H.p6, Option.bind_some, q_outcomeOf hI.H (by omega) (by omega) (hI.ch r (by omega)), Option.bind_some, if_pos (hI.ch r (by omega))]
      · show f_X8_outcome τ 0 (nI r) = _
        have h' := hm.th (v := 0)
        have hs2 : k_I τ 38 0 r = 100 := by rw [← (hm.st hr).1, (hI.st hr).1]; exact hs
        have ho2 := hm.out hr hs2
        unfold f_X8_outcome
        rw [q_isOpen hm hr, if_pos hs2, Option.bind_some, if_pos rfl]
        dsimp only
        rw [h'.M.q.2.2.2.2.2.2.2.2.2.2.1, Option.bind_some, if_pos (of_eq_true (q_g (by omega : r < 20) (by omega))), q_c (by omega), q_thI (by decide), if_pos (q_oc_C ho2.2), ho2.1]
    · refine q_exc hI (k := 2) (b := 0) (by decide) ?_ ?_
      · unfold f_L_outcome f_X7_outcome f_X7_requireStanding
        rw [q_reportAt hI.H hr]
        simp only [k_bc, k_bt]
        rw [if_neg (by rw [(hI.st hr).1]; exact hs)]
        simp
      · show f_X8_outcome σ 0 (nI r) = _
        unfold f_X8_outcome
        rw [q_isOpen hI hr, if_neg hs, Option.bind_some]
        exact if_neg q_10
  · refine q_exc hI (k := 1) (b := 0) (by decide) ?_ ?_
    · unfold f_L_outcome f_X7_outcome
      rw [q_reportAtb hI.H hx]
      simp [k_bc, k_bt]
    · show f_X8_outcome σ 0 x = _
      unfold f_X8_outcome
      rw [q_isOpenb hI hx, Option.bind_some]
      exact if_neg q_10
/-- made by a bot: the same on both sides -/
theorem q_I.bb {T : Nat} {a m : k_S} (h : q_I T a m) {r : Nat} (hr : r < k_Z a 15) : q_hb a r = if k_I m 38 0 r = 100 then (if k_I m 35 0 r < 0 then 0 else 1) else 0 := by
  have hz := h.H.z14
  have e := (h.st hr).1
  unfold q_hb
  rw [e]
  rcases h.rs hr with q | q | q | q
  · rw [q.1, if_pos q.2.1, if_neg (by decide)]
  · obtain ⟨q1, -, -, -, -, -, q2, -, q3, -⟩ := q
    rw [q1, q2]
    rcases q3 with ⟨q4, q5⟩ | ⟨j, q6, q4, q5⟩
    · rw [q4, q5]; rfl
    · rw [q4, q5, if_neg (nI_pos (by omega))]
      simp
  · rw [q.1, if_neg (c := (101 : Int32) = 100) (by decide), if_neg (c := (101 : Int32) = 100) (by decide)]
    split <;> rfl
  · obtain ⟨q1, -, -, -, -, -, q2, -, q3⟩ := q
    have k9 : (-1 : Int32) < 0 := by decide
    rw [q1, q2, q3, if_pos rfl, if_pos rfl, if_neg (c := (1 : Int32) = 0) (by decide), if_pos k9]
    split <;> rfl
theorem q_I.rv {T : Nat} {a m : k_S} (h : q_I T a m) {r : Nat} (hr : r < k_Z a 15) : k_I a 5 r 12 = q_mrv m r := by
  unfold q_mrv
  rcases h.rs hr with q | q | q | q
  · rw [q.1, if_neg (by decide)]
    exact q.2.2.2.2.2.1
  · rw [q.1, if_pos rfl, if_pos q.2.2.2.2.2.1]
    exact q.2.2.2.2.2.2.2.1
  · rw [q.1, if_neg (by decide)]
    exact q.2.2.2.2.1
  · have : k_I m 40 0 r ≠ 45 := fun e => by
      have := q.2.2.2.2.2.1
      rw [e] at this
      rcases this with q | q | q | q <;> exact absurd q (by decide)
    rw [q.1, if_pos rfl, if_neg this]
    exact q.2.2.2.2.2.2.2.1
theorem q_mrv01 (m : k_S) (r : Nat) : q_mrv m r = 0 ∨ q_mrv m r = 1 := by
  unfold q_mrv
  split
  · split
    · exact Or.inl rfl
    · split
      · exact Or.inl rfl
      · exact Or.inr rfl
  · exact Or.inl rfl
theorem q_hb01 (a : k_S) (r : Nat) : q_hb a r = 0 ∨ q_hb a r = 1 := by
  unfold q_hb
  split
  · exact Or.inl rfl
  · split
    · split
      · exact Or.inr rfl
      · exact Or.inl rfl
    · exact Or.inl rfl
theorem g_isByBot {T : Nat} {σ : k_S} (hI : q_I T σ σ) (x : Int32) : q_OkB (f_L_isByBot σ 0 x 0) (fun τ => f_X8_isByBot τ 0 x) := by
  have hz := hI.H.z15
  rcases q_ix x (n := k_Z σ 15) (by omega) with ⟨r, hr, rfl⟩ | hx
  · by_cases hs : k_I σ 38 0 r = 100
    · refine q_queryB hI (v := q_hb σ r) (q_hb01 σ r) ?_ (fun τ hm => ?_)
      · unfold f_L_isByBot f_X7_isByBot f_X7_requireStanding
        rw [q_reportAt hI.H hr]
        simp only [k_bc, k_bt]
        rw [if_pos (by rw [(hI.st hr).1]; exact hs)]
        simp only
        rw [q_standsByBot, Option.bind_some, if_pos (q_hb01 σ r)]
        rcases q_hb01 σ r with e | e <;> rw [e] <;> rfl
      · show f_X8_isByBot τ 0 (nI r) = _
        have h' := hm.th (v := 0)
        have hs2 : k_I τ 38 0 r = 100 := by rw [← (hm.st hr).1, (hI.st hr).1]; exact hs
        unfold f_X8_isByBot
        rw [q_isOpen hm hr, if_pos hs2, Option.bind_some, if_pos rfl]
        dsimp only
        rw [h'.M.q.2.2.2.2.2.2.1, Option.bind_some, if_pos (of_eq_true (q_g (by omega : r < 20) (by omega))), q_c (by omega), q_thI (by decide), hm.bb hr, if_pos hs2]
        split <;> rfl
    · refine q_excB hI (k := 2) (by decide) ?_ ?_
      · unfold f_L_isByBot f_X7_isByBot f_X7_requireStanding
        rw [q_reportAt hI.H hr]
        simp only [k_bc, k_bt]
        rw [if_neg (by rw [(hI.st hr).1]; exact hs)]
        simp
      · show f_X8_isByBot σ 0 (nI r) = _
        unfold f_X8_isByBot
        rw [q_isOpen hI hr, if_neg hs, Option.bind_some]
        exact if_neg q_10
  · refine q_excB hI (k := 1) (by decide) ?_ ?_
    · unfold f_L_isByBot f_X7_isByBot
      rw [q_reportAtb hI.H hx]
      simp [k_bc, k_bt]
    · show f_X8_isByBot σ 0 x = _
      unfold f_X8_isByBot
      rw [q_isOpenb hI hx, Option.bind_some]
      exact if_neg q_10
theorem g_wasReversed {T : Nat} {σ : k_S} (hI : q_I T σ σ) (x : Int32) : q_OkB (f_L_wasReversed σ 0 x 0) (fun τ => f_X8_wasReversed τ 0 x) := by
  have hz := hI.H.z15
  rcases q_ix x (n := k_Z σ 15) (by omega) with ⟨r, hr, rfl⟩ | hx
  · have h01 := q_mrv01 σ r
    rw [← hI.rv hr] at h01
    refine q_queryB hI (v := k_I σ 5 r 12) h01 ?_ (fun τ hm => ?_)
    · unfold f_L_wasReversed f_X7_wasReversed
      rw [q_reportAt hI.H hr]
      simp only [k_bc, k_bt]
      rw [if_pos h01]
      rcases h01 with e | e <;> rw [e] <;> rfl
    · show f_X8_wasReversed τ 0 (nI r) = _
      have h' := hm.th (v := 0)
      unfold f_X8_wasReversed
      rw [q_isNone hm hr, Option.bind_some, if_pos rfl, q_isReversed h'.M (by omega), ← h'.rv hr, Option.bind_some]
      rcases h01 with e | e <;> rw [e] <;> rfl
  · refine q_excB hI (k := 1) (by decide) ?_ ?_
    · unfold f_L_wasReversed f_X7_wasReversed
      rw [q_reportAtb hI.H hx]
      simp [k_bc, k_bt]
    · show f_X8_wasReversed σ 0 x = _
      unfold f_X8_wasReversed
      rw [q_isNoneb hI hx, Option.bind_some]
      exact if_neg q_10
theorem g_likeness {T : Nat} {σ : k_S} (hI : q_I T σ σ) (x y : Int32) : q_Ok (f_L_likeness σ 0 x y 0) (fun τ => f_X8_likeness τ 0 x y) := by
  have hz := hI.H.z15
  rcases q_ix x (n := k_Z σ 15) (by omega) with ⟨r, hr, rfl⟩ | hx
  · rcases q_ix y (n := k_Z σ 15) (by omega) with ⟨s, hs, rfl⟩ | hy
    · refine q_query hI (v := q_bc (k_I σ 5 r 3 &&& k_I σ 5 s 3)) ?_ (fun τ hm => ?_)
      · unfold f_L_likeness f_X7_likeness
        rw [q_reportAt hI.H hr]
        simp only [k_bc, k_bt]
        rw [q_reportAt hI.H hs]
        simp only
        rw [q_common, Option.bind_some]
      · show f_X8_likeness τ 0 (nI r) (nI s) = _
        have h' := hm.th (v := 0)
        unfold f_X8_likeness
        rw [q_isReport hm.M hr, Option.bind_some, if_neg (by decide), q_isReport hm.M hs, Option.bind_some, if_neg (by decide), if_pos (by decide), q_like h'.M (by omega) (by omega), Option.bind_some, q_thI (by decide), q_thI (by decide), (hm.rp hr).2.2.2.1, (hm.rp hs).2.2.2.1]
    · refine q_exc hI (k := 1) (b := 0) (by decide) ?_ ?_
      · unfold f_L_likeness f_X7_likeness
        rw [q_reportAt hI.H hr]
        simp only [k_bc, k_bt]
        rw [q_reportAtb hI.H hy]
        simp
      · show f_X8_likeness σ 0 (nI r) y = _
        unfold f_X8_likeness
        rw [q_isReport hI.M hr, Option.bind_some, if_neg (by decide), q_isReportb hI.M hy, Option.bind_some, if_pos rfl, if_neg (by decide)]
  · refine q_exc hI (k := 1) (b := 0) (by decide) ?_ ?_
    · unfold f_L_likeness f_X7_likeness
      rw [q_reportAtb hI.H hx]
      simp [k_bc, k_bt]
    · show f_X8_likeness σ 0 x y = _
      unfold f_X8_likeness
      rw [q_isReportb hI.M hx, Option.bind_some, if_pos rfl, if_neg (by decide)]
theorem q_I.cg {T : Nat} {a m : k_S} (h : q_I T a m) {r : Nat} (hr : r < k_Z a 15) : (if k_I a 10 0 r = 103 then (1 : Int32) else 0) = if k_I m 38 0 r = 100 then (if k_I m 39 0 r = 103 then 1 else 0) else 0 := by
  rw [(h.so hr).1]
  unfold q_so
  by_cases e : k_I m 38 0 r = 100
  · rw [if_pos e, if_pos e]
  · rw [if_neg e, if_neg e]
    rfl
theorem g_count {T : Nat} {σ : k_S} (hI : q_I T σ σ) (c : Int32) : q_Ok (f_L_count σ 0 c 0) (fun τ => f_X8_count τ 0 c) := by
  have hz := hI.H.z15
  have k1 : ¬ (103 : Int32) = 111 := by decide
  have k2 : ¬ (98 : Int32) = 111 := by decide
  have k3 : ¬ (98 : Int32) = 103 := by decide
  have k4 : ¬ (114 : Int32) = 111 := by decide
  have k5 : ¬ (114 : Int32) = 103 := by decide
  have k6 : ¬ (114 : Int32) = 98 := by decide
  by_cases e1 : c = 111
  · subst e1
    refine q_query hI (v := q_sI (fun r => if k_I σ 5 r 7 = 111 then 1 else 0) (k_Z σ 15)) ?_ (fun τ hm => ?_)
    · unfold f_L_count f_X7_count
      rw [if_pos rfl, q_inState hI.H 111, Option.bind_some]
      rfl
    · show f_X8_count τ 0 111 = _
      have h' := hm.th (v := 0)
      unfold f_X8_count
      rw [if_pos rfl, q_m_countl1 h'.M 111, Option.bind_some]
      refine congrArg (fun z => some (z, k_uI τ 1 0 0 0)) (q_fd_c (fun r hr => ?_))
      show q_01 (q_mof (k_uI τ 1 0 0 0) r 111) = if k_I σ 5 r 7 = 111 then 1 else 0
      rw [(h'.st hr).1]
      unfold q_mof
      rw [if_neg (by decide), if_neg (by decide), if_pos rfl]
      split <;> rfl
  by_cases e2 : c = 103
  · subst e2
    refine q_query hI (v := q_sI (fun r => if k_I σ 10 0 r = 103 then 1 else 0) (k_Z σ 15)) ?_ (fun τ hm => ?_)
    · unfold f_L_count f_X7_count
      rw [if_neg k1, if_pos rfl, q_guilty hI.H hI.ch, Option.bind_some]
      rfl
    · show f_X8_count τ 0 103 = _
      have h' := hm.th (v := 0)
      unfold f_X8_count
      rw [if_neg k1, if_pos rfl, q_m_countl2 h'.M 103, Option.bind_some]
      refine congrArg (fun z => some (z, k_uI τ 1 0 0 0)) (q_fd_c (fun r hr => ?_))
      show q_01 (q_mof (k_uI τ 1 0 0 0) r 103) = if k_I σ 10 0 r = 103 then 1 else 0
      rw [h'.cg hr]
      unfold q_mof
      rw [if_neg (by decide), if_pos rfl]
      split
      · split <;> rfl
      · rfl
  by_cases e3 : c = 98
  · subst e3
    refine q_query hI (v := q_sI (fun r => q_01 (q_hb σ r)) (k_Z σ 15)) ?_ (fun τ hm => ?_)
    · unfold f_L_count f_X7_count
      rw [if_neg k2, if_neg k3, if_pos rfl, q_byBots hI.H, Option.bind_some]
      rfl
    · show f_X8_count τ 0 98 = _
      have h' := hm.th (v := 0)
      unfold f_X8_count
      rw [if_neg k2, if_neg k3, if_pos rfl, q_m_countl3 h'.M 98, Option.bind_some]
      refine congrArg (fun z => some (z, k_uI τ 1 0 0 0)) (q_fd_c (fun r hr => ?_))
      show q_01 (q_mof (k_uI τ 1 0 0 0) r 98) = q_01 (q_hb σ r)
      rw [h'.bb hr]
      unfold q_mof
      rw [if_pos rfl]
  by_cases e4 : c = 114
  · subst e4
    refine q_query hI (v := q_sI (fun r => q_01 (k_I σ 5 r 12)) (k_Z σ 15)) ?_ (fun τ hm => ?_)
    · unfold f_L_count f_X7_count
      rw [if_neg k4, if_neg k5, if_neg k6, if_pos rfl, q_reversed hI.H, Option.bind_some]
      rfl
    · show f_X8_count τ 0 114 = _
      have h' := hm.th (v := 0)
      unfold f_X8_count
      rw [if_neg k4, if_neg k5, if_neg k6, if_pos rfl, q_m_countl4 h'.M 114, Option.bind_some]
      refine congrArg (fun z => some (z, k_uI τ 1 0 0 0)) (q_fd_c (fun r hr => ?_))
      show q_01 (q_mof (k_uI τ 1 0 0 0) r 114) = q_01 (k_I σ 5 r 12)
      rw [h'.rv hr]
      unfold q_mof
      rw [if_neg (by decide), if_neg (by decide), if_neg (by decide)]
  · refine q_exc hI (k := 1) (b := 0) (by decide) ?_ ?_
    · unfold f_L_count f_X7_count
      rw [if_neg e1, if_neg e2, if_neg e3, if_neg e4]
      simp [k_bc]
    · show f_X8_count σ 0 c = _
      unfold f_X8_count
      rw [if_neg e1, if_neg e2, if_neg e3, if_neg e4, q_fails]
      rfl
