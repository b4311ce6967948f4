/-! ===== THE PURE PART: figures, days, decisions ===== -/
theorem q_evid {σ : k_S} (h : q_H σ) (hc : q_ch σ 0) (x : Int32) : f_X7_meanEvidence_l1 200 0 x σ 0 0 = some (q_sI (fun r => if k_I σ 10 0 r = 103 then k_I σ 5 r 4 else 0) (k_Z σ 15), nI (k_Z σ 15)) := by
  have hz := h.z15
  exact q_lp (fun t a i => f_X7_meanEvidence_l1 t 0 x σ a i) (q_sI (fun r => if k_I σ 10 0 r = 103 then k_I σ 5 r 4 else 0)) _ (k_Z σ 15) (by omega) (fun t i hi => by
      show f_X7_meanEvidence_l1 (t + 1) 0 x σ (q_sI _ i) (nI i) = f_X7_meanEvidence_l1 t 0 x σ (q_sI _ i + (if k_I σ 10 0 i = 103 then k_I σ 5 i 4 else 0)) (nI (i + 1))
      rw [f_X7_meanEvidence_l1, if_pos h.p3, if_neg (nI_ge hi (by omega)), h.p6, Option.bind_some, q_outcomeOf h (by omega) (by omega) (hc i (by omega)), Option.bind_some, if_pos (of_eq_true (q_g2 hi (by omega))), q_c (by omega), h.li (by omega) (by omega) hi, Option.bind_some, nI_succ]
      by_cases e : k_I σ 10 0 i = 103 <;> simp [e]) (fun t => by
      show f_X7_meanEvidence_l1 (t + 1) 0 x σ _ _ = _
      rw [f_X7_meanEvidence_l1, if_pos h.p3, if_pos (Int32.le_refl _)])
theorem q_m_evid {R U B N : Nat} {σ : k_S} (h : q_M R U B N σ) : f_X8_meanEvidence_l1 200 0 σ 0 0 0 = some (q_sI (fun r => if k_I σ 38 0 r = 100 then (if k_I σ 39 0 r = 103 then 1 else 0) else 0) N, q_sI (fun r => if k_I σ 38 0 r = 100 then (if k_I σ 39 0 r = 103 then k_I σ 32 0 r else 0) else 0) N, nI N) := by
  have hz := h.bN
  exact q_lp (fun t (a : Int32 × Int32) i => f_X8_meanEvidence_l1 t 0 σ a.1 a.2 i) (fun i => (q_sI (fun r => if k_I σ 38 0 r = 100 then (if k_I σ 39 0 r = 103 then 1 else 0) else 0) i, q_sI (fun r => if k_I σ 38 0 r = 100 then (if k_I σ 39 0 r = 103 then k_I σ 32 0 r else 0) else 0) i)) _ N (by omega) (fun t i hi => by
      show f_X8_meanEvidence_l1 (t + 1) 0 σ (q_sI _ i) (q_sI _ i) (nI i) = f_X8_meanEvidence_l1 t 0 σ (q_sI _ i + (if k_I σ 38 0 i = 100 then (if k_I σ 39 0 i = 103 then 1 else 0) else 0)) (q_sI _ i + (if k_I σ 38 0 i = 100 then (if k_I σ 39 0 i = 103 then k_I σ 32 0 i else 0) else 0)) (nI (i + 1))
      have gi : 0 ≤ nI i ∧ (nI i).toNatClampNeg < 20 := of_eq_true (q_g (by omega) (by omega))
      rw [f_X8_meanEvidence_l1, h.N, if_neg (nI_ge hi (by omega)), q_stands h (by omega), Option.bind_some, h.q.2.2.2.1, Option.bind_some, if_pos gi, q_c (by omega), nI_succ]
      by_cases e : k_I σ 38 0 i = 100
      · by_cases e2 : k_I σ 39 0 i = 103 <;> simp [e, e2]
      · simp [e]) (fun t => by
      show f_X8_meanEvidence_l1 (t + 1) 0 σ _ _ _ = _
      rw [f_X8_meanEvidence_l1, h.N, if_pos (Int32.le_refl _)])
theorem q_news {σ : k_S} (h : q_H σ) : f_X7_reversedShare_l1 200 0 σ 0 0 = some (q_sI (fun r => q_01 (q_hn σ r)) (k_Z σ 15), nI (k_Z σ 15)) := by
  have hz := h.z15
  exact q_lp (fun t a i => f_X7_reversedShare_l1 t 0 σ a i) (q_sI (fun r => q_01 (q_hn σ r))) _ (k_Z σ 15) (by omega) (fun t i hi => by
      show f_X7_reversedShare_l1 (t + 1) 0 σ (q_sI _ i) (nI i) = f_X7_reversedShare_l1 t 0 σ (q_sI _ i + q_01 (q_hn σ i)) (nI (i + 1))
      rw [f_X7_reversedShare_l1, if_pos h.p3, if_neg (nI_ge hi (by omega)), if_pos (of_eq_true (q_g2 hi (by omega))), q_c (by omega), h.li (by omega) (by omega) hi, Option.bind_some, q_hasNew, Option.bind_some, nI_succ]
      by_cases e : q_hn σ i = 0 <;> simp [e, q_01]) (fun t => by
      show f_X7_reversedShare_l1 (t + 1) 0 σ _ _ = _
      rw [f_X7_reversedShare_l1, if_pos h.p3, if_pos (Int32.le_refl _)])
def q_db (σ : k_S) (j : Nat) : Int32 := (if k_I σ 0 0 8 < k_I σ 6 j 2 then k_I σ 0 0 8 else k_I σ 6 j 2) - k_I σ 6 j 1
def q_dsum (σ : k_S) : Nat → Int64
  | 0 => 0
  | j + 1 => q_dsum σ j + (q_db σ j).toInt64
theorem q_days {σ : k_S} (h : q_H σ) : f_X7_sanctionDays σ 0 = some (q_dsum σ (k_Z σ 16)) := by
  have hz := h.z16
  unfold f_X7_sanctionDays
  rw [show f_X7_sanctionDays_l1 200 0 σ 0 0 = some (q_dsum σ (k_Z σ 16), nI (k_Z σ 16)) from
    q_lp (fun t a i => f_X7_sanctionDays_l1 t 0 σ a i) (q_dsum σ) _ (k_Z σ 16) (by omega) (fun t i hi => by
      show f_X7_sanctionDays_l1 (t + 1) 0 σ (q_dsum σ i) (nI i) = f_X7_sanctionDays_l1 t 0 σ (q_dsum σ i + (q_db σ i).toInt64) (nI (i + 1))
      rw [f_X7_sanctionDays_l1, if_pos h.p4, if_neg (nI_ge hi (by omega)), if_pos (of_eq_true (q_g2 hi (by omega))), q_c (by omega), h.li (by omega) (by omega) hi, Option.bind_some, show f_X4_daysBefore σ i (k_I σ 0 0 8) = some (q_db σ i) from rfl, Option.bind_some, nI_succ]) (fun t => by
      show f_X7_sanctionDays_l1 (t + 1) 0 σ _ _ = _
      rw [f_X7_sanctionDays_l1, if_pos h.p4, if_pos (Int32.le_refl _)])]
  rfl
theorem q_cons1 {σ : k_S} (h : q_H σ) (hc0 : q_ch σ 0) (hc1 : q_ch σ 1) (hs : ∀ r, r < k_Z σ 15 → ((k_I σ 5 r 7 = 100 ∧ k_I σ 10 0 r ≠ 45) ∨ (k_I σ 5 r 7 ≠ 100 ∧ k_I σ 10 0 r = 45)) ∧ k_I σ 10 0 r = k_I σ 10 1 r) : f_X7_isConsistent_l1 200 0 σ 0 = some (.inl (nI (k_Z σ 15))) := by
  have hz := h.z15
  exact q_lp (fun t (_ : Unit) i => f_X7_isConsistent_l1 t 0 σ i) (fun _ => ()) _ (k_Z σ 15) (by omega) (fun t i hi => by
      show f_X7_isConsistent_l1 (t + 1) 0 σ (nI i) = f_X7_isConsistent_l1 t 0 σ (nI (i + 1))
      obtain ⟨h1, h2⟩ := hs i hi
      have o0 := q_outcomeOf h (s := 0) (r := i) (by omega) (by omega) (hc0 i (by omega))
      have o1 := q_outcomeOf h (s := 1) (r := i) (by omega) (by omega) (hc1 i (by omega))
      rw [f_X7_isConsistent_l1, if_pos h.p3, if_neg (nI_ge hi (by omega)), if_pos (of_eq_true (q_g2 hi (by omega))), q_c (by omega), h.li (by omega) (by omega) hi, Option.bind_some, nI_succ]
      rcases h1 with ⟨e1, e2⟩ | ⟨e1, e2⟩
      · simp [e1, e2, h2.symm, o0, o1, h.p6, h.p7]
      · simp [e1, e2, h2.symm, o0, o1, h.p6, h.p7]) (fun t => by
      show f_X7_isConsistent_l1 (t + 1) 0 σ _ = _
      rw [f_X7_isConsistent_l1, if_pos h.p3, if_pos (Int32.le_refl _)])
theorem q_cons2 {σ : k_S} (h : q_H σ) (hs : ∀ b, b < k_Z σ 14 → 50 ≤ k_I σ 4 b 1 ∧ k_I σ 4 b 1 ≤ 100) : f_X7_isConsistent_l2 200 0 σ 0 = some (.inl (nI (k_Z σ 14))) := by
  have hz := h.z14
  exact q_lp (fun t (_ : Unit) i => f_X7_isConsistent_l2 t 0 σ i) (fun _ => ()) _ (k_Z σ 14) (by omega) (fun t i hi => by
      show f_X7_isConsistent_l2 (t + 1) 0 σ (nI i) = f_X7_isConsistent_l2 t 0 σ (nI (i + 1))
      obtain ⟨h1, h2⟩ := hs i hi
      rw [f_X7_isConsistent_l2, if_pos h.p2, if_neg (nI_ge hi (by omega)), if_pos (of_eq_true (q_g2 hi (by omega))), q_c (by omega), h.li (by omega) (by omega) hi, Option.bind_some, nI_succ, if_neg (Int32.not_lt.mpr h1), if_pos h2]) (fun t => by
      show f_X7_isConsistent_l2 (t + 1) 0 σ _ = _
      rw [f_X7_isConsistent_l2, if_pos h.p2, if_pos (Int32.le_refl _)])
/-! days that pass -/
theorem q_lapse {σ : k_S} (h : q_H σ) (x d : Int32) : f_X7_pass_l1 200 0 x d σ 0 0 = some (q_sI (fun j => if q_inc σ j d = 0 then 0 else if q_inc σ j (k_I σ 0 0 8) = 0 then 1 else 0) (k_Z σ 16), nI (k_Z σ 16)) := by
  have hz := h.z16
  exact q_lp (fun t a i => f_X7_pass_l1 t 0 x d σ a i) (q_sI (fun j => if q_inc σ j d = 0 then 0 else if q_inc σ j (k_I σ 0 0 8) = 0 then 1 else 0)) _ (k_Z σ 16) (by omega) (fun t i hi => by
      show f_X7_pass_l1 (t + 1) 0 x d σ (q_sI _ i) (nI i) = f_X7_pass_l1 t 0 x d σ (q_sI _ i + (if q_inc σ i d = 0 then 0 else if q_inc σ i (k_I σ 0 0 8) = 0 then 1 else 0)) (nI (i + 1))
      rw [f_X7_pass_l1, if_pos h.p4, if_neg (nI_ge hi (by omega)), if_pos (of_eq_true (q_g2 hi (by omega))), q_c (by omega), h.li (by omega) (by omega) hi, Option.bind_some, q_includes, Option.bind_some, q_includes, Option.bind_some, nI_succ]
      by_cases e : q_inc σ i d = 0
      · simp [e]
      · by_cases e2 : q_inc σ i (k_I σ 0 0 8) = 0 <;> simp [e, e2]) (fun t => by
      show f_X7_pass_l1 (t + 1) 0 x d σ _ _ = _
      rw [f_X7_pass_l1, if_pos h.p4, if_pos (Int32.le_refl _)])
/-- the model's day and sum of days are others -/
def q_day (σ : k_S) (T : Int32) (J : Int64) : k_S := k_uI (k_uJ σ 1 0 32 J) 1 0 14 T
theorem q_eS {σ τ : k_S} (h1 : ∀ l i k, k_I τ l i k = k_I σ l i k) (h2 : ∀ l i k, k_J τ l i k = k_J σ l i k) (h3 : (k_D τ, k_P τ, k_N τ, k_Z τ) = (k_D σ, k_P σ, k_N σ, k_Z σ)) : τ = σ :=
  Prod.ext (funext fun l => funext fun i => funext fun k => h1 l i k) (Prod.ext (funext fun l => funext fun i => funext fun k => h2 l i k) h3)
theorem q_day0 (σ : k_S) : q_day σ (k_I σ 1 0 14) (k_J σ 1 0 32) = σ := q_eS (fun l i k => by
  unfold q_day
  rw [q_II, q_IJ]
  by_cases e : l = 1 ∧ i = 0 ∧ k = 14
  · rw [if_pos e, e.1, e.2.1, e.2.2]
  · rw [if_neg e]) (fun l i k => by
  unfold q_day
  rw [q_JI, q_JJ]
  by_cases e : l = 1 ∧ i = 0 ∧ k = 32
  · rw [if_pos e, e.1, e.2.1, e.2.2]
  · rw [if_neg e]) rfl
theorem q_dayJ (σ : k_S) (T : Int32) (J J' : Int64) : k_uJ (q_day σ T J) 1 0 32 J' = q_day σ T J' := q_eS (fun l i k => rfl) (fun l i k => by
  unfold q_day
  rw [q_JJ, q_JI, q_JJ, q_JI, q_JJ]
  by_cases e : l = 1 ∧ i = 0 ∧ k = 32
  · rw [if_pos e, if_pos e]
  · rw [if_neg e, if_neg e, if_neg e]) rfl
theorem q_dayT (σ : k_S) (T T' : Int32) (J : Int64) : k_uI (q_day σ T J) 1 0 14 T' = q_day σ T' J := q_eS (fun l i k => by
  unfold q_day
  rw [q_II, q_II, q_II]
  by_cases e : l = 1 ∧ i = 0 ∧ k = 14
  · rw [if_pos e, if_pos e]
  · rw [if_neg e, if_neg e, if_neg e]) (fun l i k => rfl) rfl
theorem q_day_M {R U B N : Nat} {σ : k_S} (h : q_M R U B N σ) (T : Int32) (J : Int64) : q_M R U B N (q_day σ T J) := h.uJ.uI (Or.inr (by decide))
/-- sanctions that include the day T, and those of them that lapse by the next -/
def q_n1 (σ : k_S) (T : Int32) (r : Nat) : Int64 := if q_mi σ r T = 0 then 0 else 1
def q_n2 (σ : k_S) (T : Int32) (r : Nat) : Int32 := if q_mi σ r T = 0 then 0 else if k_I σ 37 0 r = T + 1 then 1 else 0
def q_sJ (f : Nat → Int64) (n : Nat) : Int64 := q_fd (fun a b => a + b) 0 f n
theorem q_pass2 {R U B N : Nat} {σ : k_S} (h : q_M R U B N σ) (x y : Int32) (T : Int32) (J : Int64) (z : Int32) : f_X8_pass_l2 200 0 x y (q_day σ T J) z 0 = some (z + q_sI (q_n2 σ T) N, nI N, q_day σ T (J + q_sJ (q_n1 σ T) N)) := by
  have hz := h.bN
  have key := q_lp (fun t (a : Int32 × k_S) i => f_X8_pass_l2 t 0 x y a.2 a.1 i) (fun i => (z + q_sI (q_n2 σ T) i, q_day σ T (J + q_sJ (q_n1 σ T) i))) (z + q_sI (q_n2 σ T) N, nI N, q_day σ T (J + q_sJ (q_n1 σ T) N)) N (by omega) (fun t i hi => by
      show f_X8_pass_l2 (t + 1) 0 x y (q_day σ T (J + q_sJ (q_n1 σ T) i)) (z + q_sI (q_n2 σ T) i) (nI i) = f_X8_pass_l2 t 0 x y (q_day σ T (J + (q_sJ (q_n1 σ T) i + q_n1 σ T i))) (z + (q_sI (q_n2 σ T) i + q_n2 σ T i)) (nI (i + 1))
      have gi : 0 ≤ nI i ∧ (nI i).toNatClampNeg < 20 := of_eq_true (q_g (by omega) (by omega))
      have hd := fun J => q_day_M h T J
      have em : ∀ J, q_mi (q_day σ T J) i T = q_mi σ i T := fun J => rfl
      rw [f_X8_pass_l2, (hd _).N, if_neg (nI_ge hi (by omega)), show k_I (q_day σ T (J + q_sJ (q_n1 σ T) i)) 1 0 14 = T from rfl, show k_J (q_day σ T (J + q_sJ (q_n1 σ T) i)) 1 0 32 = J + q_sJ (q_n1 σ T) i from rfl, q_m_includes (hd _) (by omega), em, Option.bind_some, nI_succ, ← Int32.add_assoc, ← Int64.add_assoc]
      by_cases e1 : q_mi σ i T = 0
      · have a1 : q_n1 σ T i = 0 := if_pos e1
        have a2 : q_n2 σ T i = 0 := if_pos e1
        rw [if_pos e1, q_dayJ, q_m_includes (hd _) (by omega), em, Option.bind_some, if_pos e1, a1, a2]
      · have a1 : q_n1 σ T i = 1 := if_neg e1
        rw [if_neg e1, q_dayJ, q_m_includes (hd _) (by omega), em, Option.bind_some, if_neg e1, (hd _).q.2.2.2.2.2.2.2.2.1, Option.bind_some, if_pos gi, q_c (by omega), show k_I (q_day σ T (J + q_sJ (q_n1 σ T) i)) 37 0 i = k_I σ 37 0 i from rfl, a1]
        by_cases e2 : k_I σ 37 0 i = T + 1
        · have a2 : q_n2 σ T i = 1 := (if_neg e1).trans (if_pos e2)
          rw [if_pos e2, a2]
        · have a2 : q_n2 σ T i = 0 := (if_neg e1).trans (if_neg e2)
          rw [if_neg e2, a2]) (fun t => by
      show f_X8_pass_l2 (t + 1) 0 x y (q_day σ T _) _ _ = _
      rw [f_X8_pass_l2, (q_day_M h _ _).N, if_pos (Int32.le_refl _)])
  rw [show z + q_sI (q_n2 σ T) 0 = z from Int32.add_zero z, show J + q_sJ (q_n1 σ T) 0 = J from Int64.add_zero J] at key
  exact key
theorem q_pass1 {R U B N : Nat} {σ : k_S} (h : q_M R U B N σ) {T d : Nat} (hT : k_I σ 1 0 14 = nI T) (hd : d ≤ 100) : f_X8_pass_l1 200 0 (nI d) σ 0 0 = some (q_sI (fun i => q_sI (q_n2 σ (nI (T + i))) N) d, nI d, q_day σ (nI (T + d)) (k_J σ 1 0 32 + q_sJ (fun i => q_sJ (q_n1 σ (nI (T + i))) N) d)) := by
  have key := q_lp (fun t (a : Int32 × k_S) i => f_X8_pass_l1 t 0 (nI d) a.2 a.1 i) (fun i => (q_sI (fun i => q_sI (q_n2 σ (nI (T + i))) N) i, q_day σ (nI (T + i)) (k_J σ 1 0 32 + q_sJ (fun i => q_sJ (q_n1 σ (nI (T + i))) N) i))) (q_sI (fun i => q_sI (q_n2 σ (nI (T + i))) N) d, nI d, q_day σ (nI (T + d)) (k_J σ 1 0 32 + q_sJ (fun i => q_sJ (q_n1 σ (nI (T + i))) N) d)) d (by omega) (fun t i hi => by
      show f_X8_pass_l1 (t + 1) 0 (nI d) (q_day σ (nI (T + i)) (k_J σ 1 0 32 + q_sJ (fun i => q_sJ (q_n1 σ (nI (T + i))) N) i)) (q_sI (fun i => q_sI (q_n2 σ (nI (T + i))) N) i) (nI i) = f_X8_pass_l1 t 0 (nI d) (q_day σ (nI (T + (i + 1))) (k_J σ 1 0 32 + (q_sJ (fun i => q_sJ (q_n1 σ (nI (T + i))) N) i + q_sJ (q_n1 σ (nI (T + i))) N))) (q_sI (fun i => q_sI (q_n2 σ (nI (T + i))) N) i + q_sI (q_n2 σ (nI (T + i))) N) (nI (i + 1))
      rw [f_X8_pass_l1, if_neg (nI_ge hi (by omega)), q_pass2 h, Option.bind_some, nI_succ]
      dsimp only
      rw [show k_I (q_day σ (nI (T + i)) (k_J σ 1 0 32 + q_sJ (fun i => q_sJ (q_n1 σ (nI (T + i))) N) i + q_sJ (q_n1 σ (nI (T + i))) N)) 1 0 14 = nI (T + i) from rfl, q_dayT, nI_1, Int64.add_assoc, Nat.add_assoc]) (fun t => by
      show f_X8_pass_l1 (t + 1) 0 (nI d) (q_day σ _ _) _ _ = _
      rw [f_X8_pass_l1, if_pos (Int32.le_refl _)])
  have e0 : q_day σ (nI (T + 0)) (k_J σ 1 0 32 + q_sJ (fun i => q_sJ (q_n1 σ (nI (T + i))) N) 0) = σ := by
    rw [show k_J σ 1 0 32 + q_sJ (fun i => q_sJ (q_n1 σ (nI (T + i))) N) 0 = k_J σ 1 0 32 from Int64.add_zero _, Nat.add_zero, ← hT]
    exact q_day0 σ
  dsimp only at key
  rw [e0] at key
  exact key
/-! decisions -/
def q_ent (σ : k_S) (s r : Nat) (o : Int32) : k_S := k_uI (k_uI (k_uI σ 8 s 2 (k_I σ 8 s 2 + 1)) 10 s r o) 11 s r (k_I σ 8 s 2 + 1)
def q_min (σ : k_S) (r : Nat) (ap sF sA : Int32) : k_S := k_ladd (k_uI (k_uI (k_uI (k_uP (k_new σ 7) 7 (k_N σ 7) 0 (some r)) 7 (k_N σ 7) 1 ap) 7 (k_N σ 7) 2 sF) 7 (k_N σ 7) 3 sA) 17 (k_N σ 7)
def q_san (σ : k_S) (r u : Nat) (e : Int32) : k_S := k_ladd (k_uP (k_uI (k_uI (k_uP (k_new σ 6) 6 (k_N σ 6) 0 (some u)) 6 (k_N σ 6) 1 (k_I σ 0 0 8)) 6 (k_N σ 6) 2 e) 5 r 9 (some (k_N σ 6))) 16 (k_N σ 6)
def q_stb (σ : k_S) (r : Nat) (o sF sA : Int32) : k_S := k_uI (q_min (q_ent σ 0 r o) r 0 sF sA) 5 r 7 100
def q_stl (σ : k_S) (r u : Nat) (o sF sA d : Int32) : k_S := if o = 103 then q_san (q_stb σ r o sF sA) r u (k_I σ 0 0 8 + d) else q_stb σ r o sF sA
theorem q_hr_nj {σ : k_S} (hz : k_Z σ 12 ≤ 12) {r : Nat} {s : Nat} {sF sA : Int32} (h : q_hf σ s r sF sA = 103) : ∃ j, j < k_Z σ 12 ∧ (q_hr σ r).1 = nI j := by
  have hj : q_hr σ r = (-1, -1) ∨ _ := q_ru_j _
  unfold q_hf q_fo at h
  rcases hj with e | ⟨j, h1, e, -⟩
  · rw [e, if_pos (by decide)] at h
    exact absurd h (by decide)
  · exact ⟨j, h1, by rw [show q_hr σ r = (nI j, _) from e]⟩
theorem q_mr_nj {σ : k_S} {R N : Nat} {r : Nat} {sF sA : Int32} (h : q_mf R N σ r sF sA = 103) : ∃ j, j < R ∧ (q_mr R σ r).1 = nI j := by
  have hj : q_mr R σ r = (-1, -1) ∨ _ := q_ru_j _
  unfold q_mf q_fo at h
  rcases hj with e | ⟨j, h1, e, -⟩
  · rw [e, if_pos (by decide)] at h
    exact absurd h (by decide)
  · exact ⟨j, h1, by rw [show q_mr R σ r = (nI j, _) from e]⟩
theorem q_ent_H {σ : k_S} (h : q_H σ) {s r : Nat} {o : Int32} : q_H (q_ent σ s r o) := h
theorem q_min_H {σ : k_S} (h : q_H σ) (hZ : k_Z σ 17 < 60) {r : Nat} {ap sF sA : Int32} : q_H (q_min σ r ap sF sA) := by
  have n7 := h.n7
  obtain ⟨h1, h2, h3, h4, h5, h6, h7, h8, h9⟩ := h
  refine ⟨by simpa [q_min, q_II, q_IJ, q_ID, q_IP, q_In, q_Ia, q_JI, q_JJ, q_JD, q_JP, q_Jn, q_Ja, q_PI, q_PJ, q_PD, q_PP, q_Pn, q_Pa, q_NI, q_NJ, q_ND, q_NP, q_Nn, q_Na, q_ZI, q_ZJ, q_ZD, q_ZP, q_Zn, q_Za] using h1, by simpa [q_min, q_II, q_IJ, q_ID, q_IP, q_In, q_Ia, q_JI, q_JJ, q_JD, q_JP, q_Jn, q_Ja, q_PI, q_PJ, q_PD, q_PP, q_Pn, q_Pa, q_NI, q_NJ, q_ND, q_NP, q_Nn, q_Na, q_ZI, q_ZJ, q_ZD, q_ZP, q_Zn, q_Za] using h2, by simpa [q_min, q_II, q_IJ, q_ID, q_IP, q_In, q_Ia, q_JI, q_JJ, q_JD, q_JP, q_Jn, q_Ja, q_PI, q_PJ, q_PD, q_PP, q_Pn, q_Pa, q_NI, q_NJ, q_ND, q_NP, q_Nn, q_Na, q_ZI, q_ZJ, q_ZD, q_ZP, q_Zn, q_Za] using h3, by simpa [q_min, q_II, q_IJ, q_ID, q_IP, q_In, q_Ia, q_JI, q_JJ, q_JD, q_JP, q_Jn, q_Ja, q_PI, q_PJ, q_PD, q_PP, q_Pn, q_Pa, q_NI, q_NJ, q_ND, q_NP, q_Nn, q_Na, q_ZI, q_ZJ, q_ZD, q_ZP, q_Zn, q_Za] using h4, by simpa [q_min, q_II, q_IJ, q_ID, q_IP, q_In, q_Ia, q_JI, q_JJ, q_JD, q_JP, q_Jn, q_Ja, q_PI, q_PJ, q_PD, q_PP, q_Pn, q_Pa, q_NI, q_NJ, q_ND, q_NP, q_Nn, q_Na, q_ZI, q_ZJ, q_ZD, q_ZP, q_Zn, q_Za] using h5, by simpa [q_min, q_II, q_IJ, q_ID, q_IP, q_In, q_Ia, q_JI, q_JJ, q_JD, q_JP, q_Jn, q_Ja, q_PI, q_PJ, q_PD, q_PP, q_Pn, q_Pa, q_NI, q_NJ, q_ND, q_NP, q_Nn, q_Na, q_ZI, q_ZJ, q_ZD, q_ZP, q_Zn, q_Za] using h6, by simpa [q_min, q_II, q_IJ, q_ID, q_IP, q_In, q_Ia, q_JI, q_JJ, q_JD, q_JP, q_Jn, q_Ja, q_PI, q_PJ, q_PD, q_PP, q_Pn, q_Pa, q_NI, q_NJ, q_ND, q_NP, q_Nn, q_Na, q_ZI, q_ZJ, q_ZD, q_ZP, q_Zn, q_Za] using h7, ?_, fun l j a1 a2 a3 => ?_⟩
  · simp [q_min, q_II, q_IJ, q_ID, q_IP, q_In, q_Ia, q_JI, q_JJ, q_JD, q_JP, q_Jn, q_Ja, q_PI, q_PJ, q_PD, q_PP, q_Pn, q_Pa, q_NI, q_NJ, q_ND, q_NP, q_Nn, q_Na, q_ZI, q_ZJ, q_ZD, q_ZP, q_Zn, q_Za]
    omega
  · have := h9 l j a1 a2
    simp [q_min, q_II, q_IJ, q_ID, q_IP, q_In, q_Ia, q_JI, q_JJ, q_JD, q_JP, q_Jn, q_Ja, q_PI, q_PJ, q_PD, q_PP, q_Pn, q_Pa, q_NI, q_NJ, q_ND, q_NP, q_Nn, q_Na, q_ZI, q_ZJ, q_ZD, q_ZP, q_Zn, q_Za] at a3 ⊢
    by_cases e : l = 17
    · subst e
      by_cases e2 : j = k_Z σ 17
      · simp [e2, n7]
      · simp [e2]
        exact this (by simp at a3; omega)
    · have e7 : ¬ l = 7 := by omega
      simp [e, e7] at a3 ⊢
      exact this a3
theorem q_H_uI {σ : k_S} (h : q_H σ) {l i k : Nat} {v : Int32} : q_H (k_uI σ l i k v) := h
theorem q_stb_H {σ : k_S} (h : q_H σ) (hZ : k_Z σ 17 < 60) {r : Nat} {o sF sA : Int32} : q_H (q_stb σ r o sF sA) := q_H_uI (q_min_H (q_ent_H h) hZ)
theorem q_san_H {σ : k_S} (h : q_H σ) (hZ : k_Z σ 16 < 60) {r u : Nat} {e : Int32} : q_H (q_san σ r u e) := by
  have n6 := h.n6
  obtain ⟨h1, h2, h3, h4, h5, h6, h7, h8, h9⟩ := h
  refine ⟨by simpa [q_san, q_II, q_IJ, q_ID, q_IP, q_In, q_Ia, q_JI, q_JJ, q_JD, q_JP, q_Jn, q_Ja, q_PI, q_PJ, q_PD, q_PP, q_Pn, q_Pa, q_NI, q_NJ, q_ND, q_NP, q_Nn, q_Na, q_ZI, q_ZJ, q_ZD, q_ZP, q_Zn, q_Za] using h1, by simpa [q_san, q_II, q_IJ, q_ID, q_IP, q_In, q_Ia, q_JI, q_JJ, q_JD, q_JP, q_Jn, q_Ja, q_PI, q_PJ, q_PD, q_PP, q_Pn, q_Pa, q_NI, q_NJ, q_ND, q_NP, q_Nn, q_Na, q_ZI, q_ZJ, q_ZD, q_ZP, q_Zn, q_Za] using h2, by simpa [q_san, q_II, q_IJ, q_ID, q_IP, q_In, q_Ia, q_JI, q_JJ, q_JD, q_JP, q_Jn, q_Ja, q_PI, q_PJ, q_PD, q_PP, q_Pn, q_Pa, q_NI, q_NJ, q_ND, q_NP, q_Nn, q_Na, q_ZI, q_ZJ, q_ZD, q_ZP, q_Zn, q_Za] using h3, by simpa [q_san, q_II, q_IJ, q_ID, q_IP, q_In, q_Ia, q_JI, q_JJ, q_JD, q_JP, q_Jn, q_Ja, q_PI, q_PJ, q_PD, q_PP, q_Pn, q_Pa, q_NI, q_NJ, q_ND, q_NP, q_Nn, q_Na, q_ZI, q_ZJ, q_ZD, q_ZP, q_Zn, q_Za] using h4, by simpa [q_san, q_II, q_IJ, q_ID, q_IP, q_In, q_Ia, q_JI, q_JJ, q_JD, q_JP, q_Jn, q_Ja, q_PI, q_PJ, q_PD, q_PP, q_Pn, q_Pa, q_NI, q_NJ, q_ND, q_NP, q_Nn, q_Na, q_ZI, q_ZJ, q_ZD, q_ZP, q_Zn, q_Za] using h5, by simpa [q_san, q_II, q_IJ, q_ID, q_IP, q_In, q_Ia, q_JI, q_JJ, q_JD, q_JP, q_Jn, q_Ja, q_PI, q_PJ, q_PD, q_PP, q_Pn, q_Pa, q_NI, q_NJ, q_ND, q_NP, q_Nn, q_Na, q_ZI, q_ZJ, q_ZD, q_ZP, q_Zn, q_Za] using h6, ?_, by simpa [q_san, q_II, q_IJ, q_ID, q_IP, q_In, q_Ia, q_JI, q_JJ, q_JD, q_JP, q_Jn, q_Ja, q_PI, q_PJ, q_PD, q_PP, q_Pn, q_Pa, q_NI, q_NJ, q_ND, q_NP, q_Nn, q_Na, q_ZI, q_ZJ, q_ZD, q_ZP, q_Zn, q_Za] using h8, fun l j a1 a2 a3 => ?_⟩
  · simp [q_san, q_II, q_IJ, q_ID, q_IP, q_In, q_Ia, q_JI, q_JJ, q_JD, q_JP, q_Jn, q_Ja, q_PI, q_PJ, q_PD, q_PP, q_Pn, q_Pa, q_NI, q_NJ, q_ND, q_NP, q_Nn, q_Na, q_ZI, q_ZJ, q_ZD, q_ZP, q_Zn, q_Za]
    omega
  · have := h9 l j a1 a2
    simp [q_san, q_II, q_IJ, q_ID, q_IP, q_In, q_Ia, q_JI, q_JJ, q_JD, q_JP, q_Jn, q_Ja, q_PI, q_PJ, q_PD, q_PP, q_Pn, q_Pa, q_NI, q_NJ, q_ND, q_NP, q_Nn, q_Na, q_ZI, q_ZJ, q_ZD, q_ZP, q_Zn, q_Za] at a3 ⊢
    by_cases e : l = 16
    · subst e
      by_cases e2 : j = k_Z σ 16
      · simp [e2, n6]
      · simp [e2]
        exact this (by simp at a3; omega)
    · have e7 : ¬ l = 6 := by omega
      have e5 : ¬ l = 5 := by omega
      simp [e, e7, e5] at a3 ⊢
      exact this a3
theorem q_min_I {σ : k_S} {r : Nat} {ap sF sA : Int32} {l i k : Nat} (hl : l ≠ 7) : k_I (q_min σ r ap sF sA) l i k = k_I σ l i k := by
  unfold q_min
  rw [q_Ia, q_II, if_neg (by omega), q_II, if_neg (by omega), q_II, if_neg (by omega), q_IP, q_In, if_neg (by omega)]
theorem q_min_P {σ : k_S} {r : Nat} {ap sF sA : Int32} {l i k : Nat} (hl : l ≠ 7 ∧ l ≠ 17) : k_P (q_min σ r ap sF sA) l i k = k_P σ l i k := by
  unfold q_min
  rw [q_Pa, if_neg (by omega), q_PI, q_PI, q_PI, q_PP, if_neg (by omega), q_Pn, if_neg (by omega)]
theorem q_min_Z {σ : k_S} {r : Nat} {ap sF sA : Int32} {l : Nat} (hl : l ≠ 7) : k_Z (q_min σ r ap sF sA) l = if l = 17 then k_Z σ 17 + 1 else k_Z σ l := by
  unfold q_min
  rw [q_Za]
  by_cases e : l = 17
  · rw [if_pos e, if_pos e, q_ZI, q_ZI, q_ZI, q_ZP, q_Zn, if_neg (by omega)]
  · rw [if_neg e, if_neg e, q_ZI, q_ZI, q_ZI, q_ZP, q_Zn, if_neg (by omega)]
theorem q_min_N {σ : k_S} {r : Nat} {ap sF sA : Int32} {l : Nat} : k_N (q_min σ r ap sF sA) l = if l = 7 then k_N σ 7 + 1 else k_N σ l := by
  unfold q_min
  rw [q_Na, q_NI, q_NI, q_NI, q_NP, q_Nn]
theorem q_min_I7 {σ : k_S} {r : Nat} {ap sF sA : Int32} {j k : Nat} (hj : j ≠ k_N σ 7) : k_I (q_min σ r ap sF sA) 7 j k = k_I σ 7 j k := by
  unfold q_min
  rw [q_Ia, q_II, if_neg (by omega), q_II, if_neg (by omega), q_II, if_neg (by omega), q_IP, q_In, if_neg (by omega)]
theorem q_min_P7 {σ : k_S} {r : Nat} {ap sF sA : Int32} {j k : Nat} (hj : j ≠ k_N σ 7) : k_P (q_min σ r ap sF sA) 7 j k = k_P σ 7 j k := by
  unfold q_min
  rw [q_Pa, if_neg (by omega), q_PI, q_PI, q_PI, q_PP, if_neg (by omega), q_Pn, if_neg (by omega)]
theorem q_min_n {σ : k_S} {r : Nat} {ap sF sA : Int32} : k_P (q_min σ r ap sF sA) 7 (k_N σ 7) 0 = some r ∧ k_I (q_min σ r ap sF sA) 7 (k_N σ 7) 1 = ap ∧ k_I (q_min σ r ap sF sA) 7 (k_N σ 7) 2 = sF ∧ k_I (q_min σ r ap sF sA) 7 (k_N σ 7) 3 = sA := by
  unfold q_min
  refine ⟨?_, ?_, ?_, ?_⟩
  · rw [q_Pa, if_neg (by omega), q_PI, q_PI, q_PI, q_PP, if_pos ⟨rfl, rfl, rfl⟩]
  · rw [q_Ia, q_II, if_neg (by omega), q_II, if_neg (by omega), q_II, if_pos ⟨rfl, rfl, rfl⟩]
  · rw [q_Ia, q_II, if_neg (by omega), q_II, if_pos ⟨rfl, rfl, rfl⟩]
  · rw [q_Ia, q_II, if_pos ⟨rfl, rfl, rfl⟩]
theorem q_ent_I {σ : k_S} {s r : Nat} {o : Int32} {l i k : Nat} : k_I (q_ent σ s r o) l i k = if l = 11 ∧ i = s ∧ k = r then k_I σ 8 s 2 + 1 else if l = 10 ∧ i = s ∧ k = r then o else if l = 8 ∧ i = s ∧ k = 2 then k_I σ 8 s 2 + 1 else k_I σ l i k := rfl
theorem q_ent_P {σ : k_S} {s r : Nat} {o : Int32} {l i k : Nat} : k_P (q_ent σ s r o) l i k = k_P σ l i k := rfl
theorem q_ent_N {σ : k_S} {s r : Nat} {o : Int32} {l : Nat} : k_N (q_ent σ s r o) l = k_N σ l := rfl
theorem q_ent_Z {σ : k_S} {s r : Nat} {o : Int32} {l : Nat} : k_Z (q_ent σ s r o) l = k_Z σ l := rfl
theorem q_stb_I {σ : k_S} {r : Nat} {o sF sA : Int32} {l i k : Nat} (hl : l ≠ 7) : k_I (q_stb σ r o sF sA) l i k = if l = 5 ∧ i = r ∧ k = 7 then 100 else if l = 11 ∧ i = 0 ∧ k = r then k_I σ 8 0 2 + 1 else if l = 10 ∧ i = 0 ∧ k = r then o else if l = 8 ∧ i = 0 ∧ k = 2 then k_I σ 8 0 2 + 1 else k_I σ l i k := by
  unfold q_stb
  rw [q_II, q_min_I hl, q_ent_I]
theorem q_stb_P {σ : k_S} {r : Nat} {o sF sA : Int32} {l i k : Nat} (hl : l ≠ 7 ∧ l ≠ 17) : k_P (q_stb σ r o sF sA) l i k = k_P σ l i k := by
  unfold q_stb
  rw [q_PI, q_min_P hl, q_ent_P]
theorem q_stb_Z {σ : k_S} {r : Nat} {o sF sA : Int32} {l : Nat} (hl : l ≠ 7) : k_Z (q_stb σ r o sF sA) l = if l = 17 then k_Z σ 17 + 1 else k_Z σ l := by
  unfold q_stb
  rw [q_ZI, q_min_Z hl, q_ent_Z, q_ent_Z]
theorem q_stb_hr {σ : k_S} {r i : Nat} {o sF sA : Int32} : q_hr (q_stb σ r o sF sA) i = q_hr σ i := by
  unfold q_hr q_ho
  simp [q_stb_I (show (2 : Nat) ≠ 7 by decide), q_stb_I (show (5 : Nat) ≠ 7 by decide), q_stb_Z (show (12 : Nat) ≠ 7 by decide)]
theorem q_sanction {β : k_S} (h : q_H β) (hS : k_Z β 16 < 60) {r u j : Nat} (hj2 : (q_hr β r).1 = nI j) (hj1 : j < k_Z β 12) (hu : k_P β 5 r 2 = some u) : f_X7_sanctionAccused β 0 r = some ((), q_san β r u (k_I β 0 0 8 + k_I β 2 j 3)) := by
  have hz := h.z12
  unfold f_X7_sanctionAccused
  rw [q_ruleFor h, Option.bind_some, hj2, if_neg (nI_pos (by omega)), if_pos h.p0, if_pos (nI_lt hj1 (by omega)), if_pos (of_eq_true (q_g2 hj1 (by omega))), q_c (by omega), h.li (by omega) (by omega) hj1, Option.bind_some, hu, Option.bind_some]
  unfold f_X4_init
  rw [Option.bind_some]
  dsimp only
  rw [if_pos (by rw [q_PI, q_PI, q_PP, if_neg (by omega), q_Pn, if_neg (by omega)]; exact h.p4), if_pos (by rw [q_ZI, q_ZI, q_ZP, q_Zn, if_neg (by omega)]; omega)]
  rfl
theorem q_settle {σ : k_S} (h : q_H σ) (hZ : k_Z σ 17 < 60) (hS : k_Z σ 16 < 60) (hc : q_ch σ 0) {r u : Nat} (hr : r < 20) (hn : k_I σ 5 r 0 = nI r) (hu : k_P σ 5 r 2 = some u) (sF sA : Int32) : f_X7_settle σ 0 r sF sA = some (q_hf σ 0 r sF sA, q_stl σ r u (q_hf σ 0 r sF sA) sF sA (k_I σ 2 (q_hr σ r).1.toNatClampNeg 3)) := by
  have hz := h.z12
  have hoc : q_oc (q_hf σ 0 r sF sA) := by
    unfold q_hf
    rw [q_fo_fc]
    exact q_fc_oc
  have hj := fun q => q_hr_nj (σ := σ) (s := 0) (r := r) (sF := sF) (sA := sA) hz q
  unfold f_X7_settle
  rw [h.p6, Option.bind_some, q_findOutcome h (by omega) hc hr hn, Option.bind_some, hn, q_enter h (by omega) hr (q_oc_C hoc), Option.bind_some]
  generalize q_hf σ 0 r sF sA = o at hoc hj ⊢
  have hH := q_stb_H h hZ (r := r) (o := o) (sF := sF) (sA := sA)
  have e1 : k_uI (k_uI (k_uI σ 8 0 2 (k_I σ 8 0 2 + 1)) 10 0 r o) 11 0 r (k_I σ 8 0 2 + 1) = q_ent σ 0 r o := rfl
  rw [e1]
  have hb : q_stb σ r o sF sA = k_uI (q_min (q_ent σ 0 r o) r 0 sF sA) 5 r 7 100 := rfl
  have hE := q_ent_H h (s := 0) (r := r) (o := o)
  have hEZ : k_Z (q_ent σ 0 r o) 17 = k_Z σ 17 := rfl
  unfold q_stl
  have tail : o = 103 → f_X7_sanctionAccused (q_stb σ r o sF sA) 0 r = some ((), q_san (q_stb σ r o sF sA) r u (k_I σ 0 0 8 + k_I σ 2 (q_hr σ r).1.toNatClampNeg 3)) := fun e => by
    obtain ⟨j, hj1, hj2⟩ := hj e
    have t1 : k_I (q_stb σ r o sF sA) 0 0 8 = k_I σ 0 0 8 := by
      rw [q_stb_I (by decide), if_neg (by omega), if_neg (by omega), if_neg (by omega), if_neg (by omega)]
    have t2 : k_I (q_stb σ r o sF sA) 2 j 3 = k_I σ 2 j 3 := by
      rw [q_stb_I (by decide), if_neg (by omega), if_neg (by omega), if_neg (by omega), if_neg (by omega)]
    have := q_sanction hH (by rw [q_stb_Z (by decide), if_neg (by decide)]; exact hS) (r := r) (u := u) (j := j) (by rw [q_stb_hr]; exact hj2) (by rw [q_stb_Z (by decide), if_neg (by decide)]; exact hj1) (by rw [q_stb_P (by decide)]; exact hu)
    rw [this, hj2, q_c (by omega), t1, t2]
  rw [hb] at tail ⊢
  generalize q_ent σ 0 r o = ε at hE hEZ tail ⊢
  dsimp only
  rw [if_pos hE.p5]
  unfold f_X1_init
  rw [if_pos (Or.inl rfl), Option.bind_some]
  dsimp only
  rw [if_pos (by rw [q_ZI, q_ZI, q_ZI, q_ZP, q_Zn, if_neg (by omega)]; omega)]
  have e2 : k_ladd (k_uI (k_uI (k_uI (k_uP (k_new ε 7) 7 (k_N ε 7) 0 (some r)) 7 (k_N ε 7) 1 0) 7 (k_N ε 7) 2 sF) 7 (k_N ε 7) 3 sA) 17 (k_N ε 7) = q_min ε r 0 sF sA := rfl
  rw [e2]
  by_cases e : o = 103
  · rw [if_pos e, if_pos e, tail e, Option.bind_some, if_pos (q_oc_C hoc)]
  · rw [if_neg e, if_neg e, if_pos (q_oc_C hoc)]
/-! the model's decision -/
def q_mdb (σ : k_S) (r : Nat) (o b : Int32) : k_S := k_uI (k_uI (k_uI (k_uI (k_uI σ 39 0 r o) 38 0 r 100) 35 0 r b) 34 0 r (k_I σ 1 0 29)) 1 0 29 (k_I σ 1 0 29 + 1)
def q_mdl (σ : k_S) (r : Nat) (o b d : Int32) : k_S := if o = 103 then k_uI (k_uI (q_mdb σ r o b) 36 0 r (k_I σ 1 0 14)) 37 0 r (k_I σ 1 0 14 + d) else q_mdb σ r o b
theorem q_decides {R U B N : Nat} {σ : k_S} (h : q_M R U B N σ) {r : Nat} (hr : r < 20) (hrk : ∀ j, j < R → 0 ≤ k_I σ 21 0 j) (sF sA b : Int32) : f_X8_decides σ 0 (nI r) sF sA b = some ((), q_mdl σ r (q_mf R N σ r sF sA) b (k_I σ 22 0 (q_mr R σ r).1.toNatClampNeg)) := by
  have hz := h.bR
  have hoc : q_oc (q_mf R N σ r sF sA) := by
    unfold q_mf
    rw [q_fo_fc]
    exact q_fc_oc
  have gr : 0 ≤ nI r ∧ (nI r).toNatClampNeg < 20 := of_eq_true (q_g (by omega) (by omega))
  have g1 : 0 ≤ nI r ∧ r < 20 := q_g1 hr (by omega)
  unfold f_X8_decides
  rw [h.q.2.2.2.2.2.2.2.2.2.2.1, Option.bind_some, q_outcomeBy h hr hrk, Option.bind_some, if_pos gr, if_pos (q_oc_C hoc), h.q.2.2.2.2.2.2.2.2.2.1, Option.bind_some, if_pos gr, h.q.2.2.2.2.2.2.1, Option.bind_some, if_pos gr, h.q.2.2.2.2.2.1, Option.bind_some, if_pos gr, if_pos gr, h.q.2.2.2.2.2.2.2.1, Option.bind_some, if_pos gr, h.q.2.2.2.2.2.2.2.2.1, Option.bind_some, h.p.2.2.1, Option.bind_some, q_c (by omega)]
  have hj := fun q => q_mr_nj (R := R) (N := N) (σ := σ) (r := r) (sF := sF) (sA := sA) q
  generalize q_mf R N σ r sF sA = o at hoc hj ⊢
  unfold q_mdl q_mdb
  by_cases e : o = 103
  · obtain ⟨j, hj1, hj2⟩ := hj e
    rw [if_pos e, if_pos e]
    have hM : q_M R U B N (k_uI (k_uI (k_uI (k_uI (k_uI (k_uI σ 39 0 r o) 38 0 r 100) 35 0 r b) 34 0 r (k_I σ 1 0 29)) 1 0 29 (k_I σ 1 0 29 + 1)) 36 0 r (k_I σ 1 0 14)) := (((((h.uI (Or.inl (by decide))).uI (Or.inl (by decide))).uI (Or.inl (by decide))).uI (Or.inl (by decide))).uI (Or.inr (by decide))).uI (Or.inl (by decide))
    rw [q_rule hM hr hrk, Option.bind_some, show q_mr R (k_uI (k_uI (k_uI (k_uI (k_uI (k_uI σ 39 0 r o) 38 0 r 100) 35 0 r b) 34 0 r (k_I σ 1 0 29)) 1 0 29 (k_I σ 1 0 29 + 1)) 36 0 r (k_I σ 1 0 14)) r = q_mr R σ r from by unfold q_mr q_if; simp [q_II], hj2, if_pos (of_eq_true (q_g (by omega : j < 12) (by omega))), if_pos g1]
  · rw [if_neg e, if_neg e]
