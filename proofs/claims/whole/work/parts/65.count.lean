/-! ===== THE PURE PART: loops that count (written by wip/whole/gen65.py) ===== -/
def q_inc (σ : k_S) (j : Nat) (d : Int32) : Int32 := if d < k_I σ 6 j 1 then 0 else if k_I σ 6 j 2 ≤ d then 0 else 1
theorem q_includes (σ : k_S) (j : Nat) (d : Int32) : f_X4_includes σ j d = some (q_inc σ j d) := by
  unfold f_X4_includes q_inc
  split
  · rfl
  · split <;> rfl
/-- each sanction is a user's -/
def q_Su (σ : k_S) : Prop := ∀ j, j < k_Z σ 16 → ∃ u, k_P σ 6 j 0 = some u
def q_hn (σ : k_S) (r : Nat) : Int32 := if k_I σ 5 r 10 = 0 then 0 else if k_I σ 5 r 7 = 100 then 1 else 0
def q_hb (σ : k_S) (r : Nat) : Int32 := if k_P σ 5 r 8 = none then 0 else if k_I σ 5 r 7 = 100 then (if k_I σ 5 r 10 = 0 then 1 else 0) else 0
theorem q_hasNew (σ : k_S) (r : Nat) : f_X2_hasNewDecision σ r = some (q_hn σ r) := by
  unfold f_X2_hasNewDecision q_hn
  split
  · rfl
  · split <;> rfl
theorem q_standsByBot (σ : k_S) (r : Nat) : f_X2_standsByBot σ r = some (q_hb σ r) := by
  unfold f_X2_standsByBot q_hb
  by_cases hq : k_P σ 5 r 8 = none
  · rw [if_pos hq, hq]
    rfl
  · obtain ⟨b, hb⟩ := Option.ne_none_iff_exists'.mp hq
    rw [if_neg hq, hb]
    show (if k_I σ 5 r 7 = 100 then (if k_I σ 5 r 10 = 0 then some 1 else some 0) else some 0) = _
    split
    · split <;> rfl
    · rfl
theorem q_inState {σ : k_S} (h : q_H σ) (c : Int32) : f_X7_reportsInState σ 0 c = some (q_sI (fun r => if k_I σ 5 r 7 = c then 1 else 0) (k_Z σ 15)) := by
  have hz := h.z15
  unfold f_X7_reportsInState
  rw [show f_X7_reportsInState_l1 200 0 c σ 0 0 = some (q_sI (fun r => if k_I σ 5 r 7 = c then 1 else 0) (k_Z σ 15), nI (k_Z σ 15)) from
    q_lp (fun t a i => f_X7_reportsInState_l1 t 0 c σ a i) (q_sI (fun r => if k_I σ 5 r 7 = c then 1 else 0)) _ (k_Z σ 15) (by omega) (fun t i hi => by
      show f_X7_reportsInState_l1 (t + 1) 0 c σ (q_sI _ i) (nI i) = f_X7_reportsInState_l1 t 0 c σ (q_sI _ i + (fun r => if k_I σ 5 r 7 = c then 1 else 0) i) (nI (i + 1))
      rw [f_X7_reportsInState_l1, if_pos h.p3, if_neg (nI_ge hi (by omega)), if_pos (of_eq_true (q_g2 hi (by omega))), q_c (by omega), h.li (by omega) (by omega) hi, Option.bind_some, nI_succ]
      by_cases e : k_I σ 5 i 7 = c <;> simp [e]) (fun t => by
      show f_X7_reportsInState_l1 (t + 1) 0 c σ _ _ = _
      rw [f_X7_reportsInState_l1, if_pos h.p3, if_pos (Int32.le_refl _)])]
  rfl
theorem q_guilty {σ : k_S} (h : q_H σ) (hc : q_ch σ 0) : f_X7_guiltyReports σ 0 = some (q_sI (fun r => if k_I σ 10 0 r = 103 then 1 else 0) (k_Z σ 15)) := by
  have hz := h.z15
  unfold f_X7_guiltyReports
  rw [show f_X7_guiltyReports_l1 200 0 σ 0 0 = some (q_sI (fun r => if k_I σ 10 0 r = 103 then 1 else 0) (k_Z σ 15), nI (k_Z σ 15)) from
    q_lp (fun t a i => f_X7_guiltyReports_l1 t 0 σ a i) (q_sI (fun r => if k_I σ 10 0 r = 103 then 1 else 0)) _ (k_Z σ 15) (by omega) (fun t i hi => by
      show f_X7_guiltyReports_l1 (t + 1) 0 σ (q_sI _ i) (nI i) = f_X7_guiltyReports_l1 t 0 σ (q_sI _ i + (fun r => if k_I σ 10 0 r = 103 then 1 else 0) i) (nI (i + 1))
      rw [f_X7_guiltyReports_l1, if_pos h.p3, if_neg (nI_ge hi (by omega)), h.p6, Option.bind_some, q_outcomeOf h (by omega) (by omega) (hc i (by omega)), Option.bind_some, nI_succ]
      by_cases e : k_I σ 10 0 i = 103 <;> simp [e]) (fun t => by
      show f_X7_guiltyReports_l1 (t + 1) 0 σ _ _ = _
      rw [f_X7_guiltyReports_l1, if_pos h.p3, if_pos (Int32.le_refl _)])]
  rfl
theorem q_byBots {σ : k_S} (h : q_H σ) : f_X7_reportsByBots σ 0 = some (q_sI (fun r => q_01 (q_hb σ r)) (k_Z σ 15)) := by
  have hz := h.z15
  unfold f_X7_reportsByBots
  rw [show f_X7_reportsByBots_l1 200 0 σ 0 0 = some (q_sI (fun r => q_01 (q_hb σ r)) (k_Z σ 15), nI (k_Z σ 15)) from
    q_lp (fun t a i => f_X7_reportsByBots_l1 t 0 σ a i) (q_sI (fun r => q_01 (q_hb σ r))) _ (k_Z σ 15) (by omega) (fun t i hi => by
      show f_X7_reportsByBots_l1 (t + 1) 0 σ (q_sI _ i) (nI i) = f_X7_reportsByBots_l1 t 0 σ (q_sI _ i + (fun r => q_01 (q_hb σ r)) i) (nI (i + 1))
      rw [f_X7_reportsByBots_l1, if_pos h.p3, if_neg (nI_ge hi (by omega)), if_pos (of_eq_true (q_g2 hi (by omega))), q_c (by omega), h.li (by omega) (by omega) hi, Option.bind_some, q_standsByBot, Option.bind_some, nI_succ]
      by_cases e : q_hb σ i = 0 <;> simp [e, q_01]) (fun t => by
      show f_X7_reportsByBots_l1 (t + 1) 0 σ _ _ = _
      rw [f_X7_reportsByBots_l1, if_pos h.p3, if_pos (Int32.le_refl _)])]
  rfl
theorem q_reversed {σ : k_S} (h : q_H σ) : f_X7_reversedReports σ 0 = some (q_sI (fun r => q_01 (k_I σ 5 r 12)) (k_Z σ 15)) := by
  have hz := h.z15
  unfold f_X7_reversedReports
  rw [show f_X7_reversedReports_l1 200 0 σ 0 0 = some (q_sI (fun r => q_01 (k_I σ 5 r 12)) (k_Z σ 15), nI (k_Z σ 15)) from
    q_lp (fun t a i => f_X7_reversedReports_l1 t 0 σ a i) (q_sI (fun r => q_01 (k_I σ 5 r 12))) _ (k_Z σ 15) (by omega) (fun t i hi => by
      show f_X7_reversedReports_l1 (t + 1) 0 σ (q_sI _ i) (nI i) = f_X7_reversedReports_l1 t 0 σ (q_sI _ i + (fun r => q_01 (k_I σ 5 r 12)) i) (nI (i + 1))
      rw [f_X7_reversedReports_l1, if_pos h.p3, if_neg (nI_ge hi (by omega)), if_pos (of_eq_true (q_g2 hi (by omega))), q_c (by omega), h.li (by omega) (by omega) hi, Option.bind_some, nI_succ]
      by_cases e : k_I σ 5 i 12 = 0 <;> simp [e, q_01]) (fun t => by
      show f_X7_reversedReports_l1 (t + 1) 0 σ _ _ = _
      rw [f_X7_reversedReports_l1, if_pos h.p3, if_pos (Int32.le_refl _)])]
  rfl
theorem q_present {σ : k_S} (h : q_H σ) (hu : q_Su σ) (u : Nat) : f_X7_presentSanctions σ 0 u = some (q_sI (fun j => if k_P σ 6 j 0 = some u then q_01 (q_inc σ j (k_I σ 0 0 8)) else 0) (k_Z σ 16)) := by
  have hz := h.z16
  unfold f_X7_presentSanctions
  rw [show f_X7_presentSanctions_l1 200 0 u σ 0 0 = some (q_sI (fun j => if k_P σ 6 j 0 = some u then q_01 (q_inc σ j (k_I σ 0 0 8)) else 0) (k_Z σ 16), nI (k_Z σ 16)) from
    q_lp (fun t a i => f_X7_presentSanctions_l1 t 0 u σ a i) (q_sI (fun j => if k_P σ 6 j 0 = some u then q_01 (q_inc σ j (k_I σ 0 0 8)) else 0)) _ (k_Z σ 16) (by omega) (fun t i hi => by
      show f_X7_presentSanctions_l1 (t + 1) 0 u σ (q_sI _ i) (nI i) = f_X7_presentSanctions_l1 t 0 u σ (q_sI _ i + (fun j => if k_P σ 6 j 0 = some u then q_01 (q_inc σ j (k_I σ 0 0 8)) else 0) i) (nI (i + 1))
      obtain ⟨v, hv⟩ := hu i hi
      rw [f_X7_presentSanctions_l1, if_pos h.p4, if_neg (nI_ge hi (by omega)), if_pos (of_eq_true (q_g2 hi (by omega))), q_c (by omega), h.li (by omega) (by omega) hi, Option.bind_some, hv, Option.bind_some, q_includes, Option.bind_some, nI_succ]
      by_cases e : v = u
      · by_cases e2 : q_inc σ i (k_I σ 0 0 8) = 0 <;> simp [e, e2, hv, q_01]
      · simp [e, hv]) (fun t => by
      show f_X7_presentSanctions_l1 (t + 1) 0 u σ _ _ = _
      rw [f_X7_presentSanctions_l1, if_pos h.p4, if_pos (Int32.le_refl _)])]
  rfl
theorem q_m_repeal {R U B N : Nat} {σ : k_S} (h : q_M R U B N σ) (x d : Int32) : f_X8_repeal_l1 200 0 x d σ 0 0 = some (q_sI (fun r => q_01 (q_if σ r d)) R, nI R) := by
  have hz := h.bR
  exact q_lp (fun t a i => f_X8_repeal_l1 t 0 x d σ a i) (q_sI (fun r => q_01 (q_if σ r d))) _ R (by omega) (fun t i hi => by
      show f_X8_repeal_l1 (t + 1) 0 x d σ (q_sI _ i) (nI i) = f_X8_repeal_l1 t 0 x d σ (q_sI _ i + (fun r => q_01 (q_if σ r d)) i) (nI (i + 1))
      rw [f_X8_repeal_l1, h.R, if_neg (nI_ge hi (by omega)), q_inForce h (by omega), Option.bind_some, nI_succ]
      by_cases e : q_if σ i d = 0 <;> simp [e, q_01]) (fun t => by
      show f_X8_repeal_l1 (t + 1) 0 x d σ _ _ = _
      rw [f_X8_repeal_l1, h.R, if_pos (Int32.le_refl _)])
theorem q_m_appeal {R U B N : Nat} {σ : k_S} (h : q_M R U B N σ) (x : Int32) : f_X8_appeal_l1 200 0 x σ 0 0 = some (q_sI (fun r => if k_I σ 38 0 r = 101 then 1 else 0) N, nI N) := by
  have hz := h.bN
  exact q_lp (fun t a i => f_X8_appeal_l1 t 0 x σ a i) (q_sI (fun r => if k_I σ 38 0 r = 101 then 1 else 0)) _ N (by omega) (fun t i hi => by
      show f_X8_appeal_l1 (t + 1) 0 x σ (q_sI _ i) (nI i) = f_X8_appeal_l1 t 0 x σ (q_sI _ i + (fun r => if k_I σ 38 0 r = 101 then 1 else 0) i) (nI (i + 1))
      rw [f_X8_appeal_l1, h.N, if_neg (nI_ge hi (by omega)), h.q.2.2.2.2.2.2.2.2.2.1, Option.bind_some, if_pos (of_eq_true (q_g (by omega : i < 20) (by omega))), q_c (by omega), nI_succ]
      by_cases e : k_I σ 38 0 i = 101 <;> simp [e]) (fun t => by
      show f_X8_appeal_l1 (t + 1) 0 x σ _ _ = _
      rw [f_X8_appeal_l1, h.N, if_pos (Int32.le_refl _)])
def q_mi (σ : k_S) (r : Nat) (d : Int32) : Int32 := if k_I σ 38 0 r = 100 then (if k_I σ 39 0 r = 103 then (if d < k_I σ 36 0 r then 0 else if k_I σ 37 0 r - 1 < d then 0 else 1) else 0) else 0
theorem q_m_includes {R U B N : Nat} {σ : k_S} (h : q_M R U B N σ) {r : Nat} (hr : r < 20) (d : Int32) : f_X8_includes σ 0 (nI r) d = some (q_mi σ r d) := by
  unfold f_X8_includes q_mi
  rw [q_stands h hr, Option.bind_some, h.q.2.2.2.2.2.2.2.1, Option.bind_some, if_pos (of_eq_true (q_g hr (by omega))), h.q.2.2.2.2.2.2.2.2.1, Option.bind_some, if_pos (of_eq_true (q_g hr (by omega))), q_c (by omega)]
  unfold f_X8_isBetween
  by_cases e1 : k_I σ 38 0 r = 100
  · rw [if_pos e1, if_pos e1]
    by_cases e2 : k_I σ 39 0 r = 103
    · rw [if_pos e2, if_pos e2, if_neg (by decide)]
      split
      · rfl
      · split <;> rfl
    · rw [if_neg e2, if_neg e2, if_pos rfl]
  · rw [if_neg e1, if_neg e1, if_pos rfl]
def q_mrv (σ : k_S) (r : Nat) : Int32 := if k_I σ 38 0 r = 100 then (if k_I σ 40 0 r = 45 then 0 else if k_I σ 40 0 r = k_I σ 39 0 r then 0 else 1) else 0
theorem q_isReversed {R U B N : Nat} {σ : k_S} (h : q_M R U B N σ) {r : Nat} (hr : r < 20) : f_X8_isReversed σ 0 (nI r) = some (q_mrv σ r) := by
  unfold f_X8_isReversed q_mrv
  rw [h.q.2.2.2.2.2.2.2.2.2.1, Option.bind_some, if_pos (of_eq_true (q_g hr (by omega))), q_c (by omega), h.q.2.2.2.2.2.2.2.2.2.2.2.1, Option.bind_some, if_pos (q_g1 hr (by omega)), if_pos (q_g1 hr (by omega)), h.q.2.2.2.2.2.2.2.2.2.2.1, Option.bind_some, if_pos (q_g1 hr (by omega))]
  split
  · split
    · rfl
    · split <;> rfl
  · rfl
def q_mof (σ : k_S) (r : Nat) (c : Int32) : Int32 := if c = 98 then (if k_I σ 38 0 r = 100 then (if k_I σ 35 0 r < 0 then 0 else 1) else 0) else if c = 103 then (if k_I σ 38 0 r = 100 then (if k_I σ 39 0 r = 103 then 1 else 0) else 0) else if c = 111 then (if k_I σ 38 0 r = 111 then 1 else 0) else q_mrv σ r
theorem q_isOf {R U B N : Nat} {σ : k_S} (h : q_M R U B N σ) {r : Nat} (hr : r < 20) (c : Int32) : f_X8_isOf σ 0 (nI r) c = some (q_mof σ r c) := by
  unfold f_X8_isOf q_mof
  rw [h.q.2.2.2.2.2.2.2.2.2.1, Option.bind_some, if_pos (of_eq_true (q_g hr (by omega))), q_c (by omega), h.q.2.2.2.2.2.2.1, Option.bind_some, if_pos (q_g1 hr (by omega)), q_stands h hr, Option.bind_some, Option.bind_some, if_pos (q_g1 hr (by omega)), q_isReversed h hr, Option.bind_some]
  split
  · split
    · split <;> rfl
    · rfl
  · split
    · split
      · split <;> rfl
      · rfl
    · split
      · split <;> rfl
      · unfold q_mrv
        split
        · split
          · rfl
          · split <;> rfl
        · rfl
theorem q_m_sanctionsOf {R U B N : Nat} {σ : k_S} (h : q_M R U B N σ) (u : Nat) : f_X8_sanctionsOf_l1 200 0 (nI u) σ 0 0 = some (q_sI (fun r => if k_I σ 30 0 r = nI u then q_01 (q_mi σ r (k_I σ 1 0 14)) else 0) N, nI N) := by
  have hz := h.bN
  exact q_lp (fun t a i => f_X8_sanctionsOf_l1 t 0 (nI u) σ a i) (q_sI (fun r => if k_I σ 30 0 r = nI u then q_01 (q_mi σ r (k_I σ 1 0 14)) else 0)) _ N (by omega) (fun t i hi => by
      show f_X8_sanctionsOf_l1 (t + 1) 0 (nI u) σ (q_sI _ i) (nI i) = f_X8_sanctionsOf_l1 t 0 (nI u) σ (q_sI _ i + (fun r => if k_I σ 30 0 r = nI u then q_01 (q_mi σ r (k_I σ 1 0 14)) else 0) i) (nI (i + 1))
      rw [f_X8_sanctionsOf_l1, h.N, if_neg (nI_ge hi (by omega)), h.q.2.1, Option.bind_some, if_pos (of_eq_true (q_g (by omega : i < 20) (by omega))), q_c (by omega), q_m_includes h (by omega), Option.bind_some, nI_succ]
      by_cases e : k_I σ 30 0 i = nI u
      · by_cases e2 : q_mi σ i (k_I σ 1 0 14) = 0 <;> simp [e, e2, q_01]
      · simp [e]) (fun t => by
      show f_X8_sanctionsOf_l1 (t + 1) 0 (nI u) σ _ _ = _
      rw [f_X8_sanctionsOf_l1, h.N, if_pos (Int32.le_refl _)])
theorem q_m_countl1 {R U B N : Nat} {σ : k_S} (h : q_M R U B N σ) (c : Int32) : f_X8_count_l1 200 0 c σ 0 0 = some (q_sI (fun r => q_01 (q_mof σ r c)) N, nI N) := by
  have hz := h.bN
  exact q_lp (fun t a i => f_X8_count_l1 t 0 c σ a i) (q_sI (fun r => q_01 (q_mof σ r c))) _ N (by omega) (fun t i hi => by
      show f_X8_count_l1 (t + 1) 0 c σ (q_sI _ i) (nI i) = f_X8_count_l1 t 0 c σ (q_sI _ i + (fun r => q_01 (q_mof σ r c)) i) (nI (i + 1))
      rw [f_X8_count_l1, h.N, if_neg (nI_ge hi (by omega)), q_isOf h (by omega), Option.bind_some, nI_succ]
      by_cases e : q_mof σ i c = 0 <;> simp [e, q_01]) (fun t => by
      show f_X8_count_l1 (t + 1) 0 c σ _ _ = _
      rw [f_X8_count_l1, h.N, if_pos (Int32.le_refl _)])
theorem q_m_countl2 {R U B N : Nat} {σ : k_S} (h : q_M R U B N σ) (c : Int32) : f_X8_count_l2 200 0 c σ 0 0 = some (q_sI (fun r => q_01 (q_mof σ r c)) N, nI N) := by
  have hz := h.bN
  exact q_lp (fun t a i => f_X8_count_l2 t 0 c σ a i) (q_sI (fun r => q_01 (q_mof σ r c))) _ N (by omega) (fun t i hi => by
      show f_X8_count_l2 (t + 1) 0 c σ (q_sI _ i) (nI i) = f_X8_count_l2 t 0 c σ (q_sI _ i + (fun r => q_01 (q_mof σ r c)) i) (nI (i + 1))
      rw [f_X8_count_l2, h.N, if_neg (nI_ge hi (by omega)), q_isOf h (by omega), Option.bind_some, nI_succ]
      by_cases e : q_mof σ i c = 0 <;> simp [e, q_01]) (fun t => by
      show f_X8_count_l2 (t + 1) 0 c σ _ _ = _
      rw [f_X8_count_l2, h.N, if_pos (Int32.le_refl _)])
theorem q_m_countl3 {R U B N : Nat} {σ : k_S} (h : q_M R U B N σ) (c : Int32) : f_X8_count_l3 200 0 c σ 0 0 = some (q_sI (fun r => q_01 (q_mof σ r c)) N, nI N) := by
  have hz := h.bN
  exact q_lp (fun t a i => f_X8_count_l3 t 0 c σ a i) (q_sI (fun r => q_01 (q_mof σ r c))) _ N (by omega) (fun t i hi => by
      show f_X8_count_l3 (t + 1) 0 c σ (q_sI _ i) (nI i) = f_X8_count_l3 t 0 c σ (q_sI _ i + (fun r => q_01 (q_mof σ r c)) i) (nI (i + 1))
      rw [f_X8_count_l3, h.N, if_neg (nI_ge hi (by omega)), q_isOf h (by omega), Option.bind_some, nI_succ]
      by_cases e : q_mof σ i c = 0 <;> simp [e, q_01]) (fun t => by
      show f_X8_count_l3 (t + 1) 0 c σ _ _ = _
      rw [f_X8_count_l3, h.N, if_pos (Int32.le_refl _)])
theorem q_m_countl4 {R U B N : Nat} {σ : k_S} (h : q_M R U B N σ) (c : Int32) : f_X8_count_l4 200 0 c σ 0 0 = some (q_sI (fun r => q_01 (q_mof σ r c)) N, nI N) := by
  have hz := h.bN
  exact q_lp (fun t a i => f_X8_count_l4 t 0 c σ a i) (q_sI (fun r => q_01 (q_mof σ r c))) _ N (by omega) (fun t i hi => by
      show f_X8_count_l4 (t + 1) 0 c σ (q_sI _ i) (nI i) = f_X8_count_l4 t 0 c σ (q_sI _ i + (fun r => q_01 (q_mof σ r c)) i) (nI (i + 1))
      rw [f_X8_count_l4, h.N, if_neg (nI_ge hi (by omega)), q_isOf h (by omega), Option.bind_some, nI_succ]
      by_cases e : q_mof σ i c = 0 <;> simp [e, q_01]) (fun t => by
      show f_X8_count_l4 (t + 1) 0 c σ _ _ = _
      rw [f_X8_count_l4, h.N, if_pos (Int32.le_refl _)])
theorem q_sumFor {σ : k_S} {r : Nat} (hp : k_P σ 5 r 6 = some r) : f_X2_sumFor σ r = some (q_sI (fun u => if (k_I σ 9 r u) < 0 then 0 else (k_I σ 9 r u)) 8) := by
  unfold f_X2_sumFor
  rw [hp, Option.bind_some]
  rw [show f_X2_sumFor_l1 200 r r σ 0 0 = some (q_sI (fun u => if (k_I σ 9 r u) < 0 then 0 else (k_I σ 9 r u)) 8, nI 8) from
    q_lp (fun t a i => f_X2_sumFor_l1 t r r σ a i) (q_sI (fun u => if (k_I σ 9 r u) < 0 then 0 else (k_I σ 9 r u))) _ 8 (by omega) (fun t i hi => by
      show f_X2_sumFor_l1 (t + 1) r r σ (q_sI _ i) (nI i) = f_X2_sumFor_l1 t r r σ (q_sI _ i + (fun u => if (k_I σ 9 r u) < 0 then 0 else (k_I σ 9 r u)) i) (nI (i + 1))
      have e : ¬ (8 : Int32) ≤ nI i := nI_ge (b := 8) hi (by omega)
      rw [f_X2_sumFor_l1, if_neg e, if_pos (of_eq_true (q_g hi (by omega))), q_c (by omega), nI_succ]) (fun t => by
      show f_X2_sumFor_l1 (t + 1) r r σ _ (nI 8) = _
      rw [f_X2_sumFor_l1, if_pos (by decide)])]
  rfl
theorem q_sumAgainst {σ : k_S} {r : Nat} (hp : k_P σ 5 r 6 = some r) : f_X2_sumAgainst σ r = some (q_sI (fun u => if (-(k_I σ 9 r u)) < 0 then 0 else (-(k_I σ 9 r u))) 8) := by
  unfold f_X2_sumAgainst
  rw [hp, Option.bind_some]
  rw [show f_X2_sumAgainst_l1 200 r r σ 0 0 = some (q_sI (fun u => if (-(k_I σ 9 r u)) < 0 then 0 else (-(k_I σ 9 r u))) 8, nI 8) from
    q_lp (fun t a i => f_X2_sumAgainst_l1 t r r σ a i) (q_sI (fun u => if (-(k_I σ 9 r u)) < 0 then 0 else (-(k_I σ 9 r u)))) _ 8 (by omega) (fun t i hi => by
      show f_X2_sumAgainst_l1 (t + 1) r r σ (q_sI _ i) (nI i) = f_X2_sumAgainst_l1 t r r σ (q_sI _ i + (fun u => if (-(k_I σ 9 r u)) < 0 then 0 else (-(k_I σ 9 r u))) i) (nI (i + 1))
      have e : ¬ (8 : Int32) ≤ nI i := nI_ge (b := 8) hi (by omega)
      rw [f_X2_sumAgainst_l1, if_neg e, if_pos (of_eq_true (q_g hi (by omega))), q_c (by omega), nI_succ]) (fun t => by
      show f_X2_sumAgainst_l1 (t + 1) r r σ _ (nI 8) = _
      rw [f_X2_sumAgainst_l1, if_pos (by decide)])]
  rfl
theorem q_weight {R U B N : Nat} {σ : k_S} (h : q_M R U B N σ) {r : Nat} (hr : r < 20) (s : Int32) : f_X8_weight σ 0 (nI r) s = some (q_sI (fun u => if 0 < s * k_I σ 42 r u then s * k_I σ 42 r u else 0) U) := by
  have hz := h.bU
  unfold f_X8_weight
  rw [show f_X8_weight_l1 200 0 (nI r) s σ 0 0 = some (q_sI (fun u => if 0 < s * k_I σ 42 r u then s * k_I σ 42 r u else 0) U, nI U) from
    q_lp (fun t a i => f_X8_weight_l1 t 0 (nI r) s σ a i) (q_sI (fun u => if 0 < s * k_I σ 42 r u then s * k_I σ 42 r u else 0)) _ U (by omega) (fun t i hi => by
      show f_X8_weight_l1 (t + 1) 0 (nI r) s σ (q_sI _ i) (nI i) = f_X8_weight_l1 t 0 (nI r) s σ (q_sI _ i + (if 0 < s * k_I σ 42 r i then s * k_I σ 42 r i else 0)) (nI (i + 1))
      rw [f_X8_weight_l1, h.U, if_neg (nI_ge hi (by omega)), h.q.2.2.2.2.2.2.2.2.2.2.2.2, Option.bind_some, if_pos (of_eq_true (q_g hr (by omega))), q_c (by omega), h.row hr, Option.bind_some, if_pos (of_eq_true (q_g (by omega : i < 8) (by omega))), q_c (by omega), nI_succ]) (fun t => by
      show f_X8_weight_l1 (t + 1) 0 (nI r) s σ _ _ = _
      rw [f_X8_weight_l1, h.U, if_pos (Int32.le_refl _)])]
  rfl
