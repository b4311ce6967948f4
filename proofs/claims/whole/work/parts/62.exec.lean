/-! ===== THE PURE PART: rules ===== -/
def q_01 (c : Int32) : Int32 := if c = 0 then 0 else 1
def q_ho (σ : k_S) (r : Nat) (d : Int32) : Int32 := if d < k_I σ 2 r 4 then 0 else if k_I σ 2 r 5 ≤ d then 0 else 1
def q_if (σ : k_S) (r : Nat) (d : Int32) : Int32 := if d < k_I σ 23 0 r then 0 else if k_I σ 24 0 r ≤ d then 0 else 1
def q_tl (fa kd : Int32) : Int32 := if ((fa >>> (kd &&& 31)) &&& 1) = 1 then 1 else 0
theorem q_holds (σ : k_S) (r : Nat) (d : Int32) : f_X3_holdsOn σ r d = some (q_ho σ r d) := by
  unfold f_X3_holdsOn q_ho
  split
  · rfl
  · split <;> rfl
theorem q_tells (σ : k_S) (r : Nat) (kd : Int32) : f_X2_tells σ r kd = some (q_tl (k_I σ 5 r 3) kd) := by
  unfold f_X2_tells q_tl
  split <;> rfl
theorem q_inForce {R U B N : Nat} {σ : k_S} (h : q_M R U B N σ) {r : Nat} (hr : r < 12) (d : Int32) : f_X8_inForce σ 0 (nI r) d = some (q_if σ r d) := by
  unfold f_X8_inForce q_if
  rw [h.p.2.2.2.1, Option.bind_some, if_pos (of_eq_true (q_g hr (by omega))), q_c (by omega), h.p.2.2.2.2.1, Option.bind_some, if_pos (q_g1 hr (by omega))]
  split
  · rfl
  · split <;> rfl
theorem q_rulesInForce {σ : k_S} (h : q_H σ) (d : Int32) : f_X7_rulesInForce σ 0 d = some (q_sI (fun r => q_01 (q_ho σ r d)) (k_Z σ 12)) := by
  have hz := h.z12
  unfold f_X7_rulesInForce
  rw [show f_X7_rulesInForce_l1 200 0 d σ 0 0 = some (q_sI (fun r => q_01 (q_ho σ r d)) (k_Z σ 12), nI (k_Z σ 12)) from
    q_lp (fun t a i => f_X7_rulesInForce_l1 t 0 d σ a i) (q_sI (fun r => q_01 (q_ho σ r d))) _ (k_Z σ 12) (by omega) (fun t i hi => by
      show f_X7_rulesInForce_l1 (t + 1) 0 d σ (q_sI _ i) (nI i) = f_X7_rulesInForce_l1 t 0 d σ (q_sI _ i + q_01 (q_ho σ i d)) (nI (i + 1))
      rw [f_X7_rulesInForce_l1, if_pos h.p0, if_neg (nI_ge hi (by omega)), if_pos (of_eq_true (q_g2 hi (by omega))), q_c (by omega), h.li (by omega) (by omega) hi, Option.bind_some, q_holds, Option.bind_some, nI_succ]
      by_cases e : q_ho σ i d = 0 <;> simp [q_01, e]) (fun t => by
      show f_X7_rulesInForce_l1 (t + 1) 0 d σ _ _ = _
      rw [f_X7_rulesInForce_l1, if_pos h.p0, if_pos (Int32.le_refl _)])]
  rfl
/-- the rule that applies, and its rank; -1, -1 for none -/
def q_ru (ho tl rk : Nat → Int32) : Nat → Int32 × Int32
  | 0 => (-1, -1)
  | i + 1 => if ho i = 0 ∨ tl i = 0 ∨ rk i < (q_ru ho tl rk i).2 then q_ru ho tl rk i else (nI i, rk i)
theorem q_ru_c {ho tl rk ho' tl' rk' : Nat → Int32} : ∀ {n : Nat}, (∀ i, i < n → ho i = ho' i ∧ tl i = tl' i ∧ rk i = rk' i) → q_ru ho tl rk n = q_ru ho' tl' rk' n
  | 0, _ => rfl
  | n + 1, h => by
    have e := q_ru_c (n := n) (fun i hi => h i (by omega))
    obtain ⟨h1, h2, h3⟩ := h n (by omega)
    unfold q_ru
    rw [e, h1, h2, h3]
theorem q_ru_j {ho tl rk : Nat → Int32} : ∀ (n : Nat), q_ru ho tl rk n = (-1, -1) ∨ ∃ j, j < n ∧ q_ru ho tl rk n = (nI j, rk j) ∧ ho j ≠ 0 ∧ tl j ≠ 0
  | 0 => Or.inl rfl
  | n + 1 => by
    unfold q_ru
    by_cases e : ho n = 0 ∨ tl n = 0 ∨ rk n < (q_ru ho tl rk n).2
    · rw [if_pos e]
      rcases q_ru_j (ho := ho) (tl := tl) (rk := rk) n with h | ⟨j, h1, h2⟩
      · exact Or.inl h
      · exact Or.inr ⟨j, by omega, h2⟩
    · rw [if_neg e]
      exact Or.inr ⟨n, by omega, rfl, fun q => e (Or.inl q), fun q => e (Or.inr (Or.inl q))⟩
def q_hr (σ : k_S) (r : Nat) : Int32 × Int32 := q_ru (fun j => q_ho σ j (k_I σ 5 r 5)) (fun j => q_tl (k_I σ 5 r 3) (k_I σ 2 j 0)) (fun j => k_I σ 2 j 2) (k_Z σ 12)
def q_mr (R : Nat) (σ : k_S) (r : Nat) : Int32 × Int32 := q_ru (fun j => q_if σ j (k_I σ 33 0 r)) (fun j => q_tl (k_I σ 31 0 r) (k_I σ 20 0 j)) (fun j => k_I σ 21 0 j) R
theorem q_ruleFor {σ : k_S} (h : q_H σ) (r : Nat) : f_X7_ruleFor σ 0 r = some (q_hr σ r).1 := by
  have hz := h.z12
  unfold f_X7_ruleFor
  rw [show f_X7_ruleFor_l1 200 0 r σ (-1) (-1) 0 = some ((q_hr σ r).1, (q_hr σ r).2, nI (k_Z σ 12)) from
    q_lp (fun t (a : Int32 × Int32) i => f_X7_ruleFor_l1 t 0 r σ a.1 a.2 i) (q_ru (fun j => q_ho σ j (k_I σ 5 r 5)) (fun j => q_tl (k_I σ 5 r 3) (k_I σ 2 j 0)) (fun j => k_I σ 2 j 2)) _ (k_Z σ 12) (by omega) (fun t i hi => by
      show f_X7_ruleFor_l1 (t + 1) 0 r σ _ _ (nI i) = f_X7_ruleFor_l1 t 0 r σ (q_ru _ _ _ (i + 1)).1 (q_ru _ _ _ (i + 1)).2 (nI (i + 1))
      generalize hp : q_ru (fun j => q_ho σ j (k_I σ 5 r 5)) (fun j => q_tl (k_I σ 5 r 3) (k_I σ 2 j 0)) (fun j => k_I σ 2 j 2) i = p
      rw [f_X7_ruleFor_l1, if_pos h.p0, if_neg (nI_ge hi (by omega)), if_pos (of_eq_true (q_g2 hi (by omega))), q_c (by omega), h.li (by omega) (by omega) hi, Option.bind_some, q_holds, Option.bind_some, q_tells, Option.bind_some, nI_succ, q_ru, hp]
      by_cases e1 : q_ho σ i (k_I σ 5 r 5) = 0
      · simp [e1]
      · by_cases e2 : q_tl (k_I σ 5 r 3) (k_I σ 2 i 0) = 0
        · simp [e1, e2]
        · by_cases e3 : k_I σ 2 i 2 < p.2 <;> simp [e1, e2, e3]) (fun t => by
      show f_X7_ruleFor_l1 (t + 1) 0 r σ _ _ _ = _
      rw [f_X7_ruleFor_l1, if_pos h.p0, if_pos (Int32.le_refl _)]
      rfl)]
  rfl
theorem q_rule {R U B N : Nat} {σ : k_S} (h : q_M R U B N σ) {r : Nat} (hr : r < 20) (hrk : ∀ j, j < R → 0 ≤ k_I σ 21 0 j) : f_X8_rule σ 0 (nI r) = some (q_mr R σ r).1 := by
  have hz := h.bR
  unfold f_X8_rule
  rw [show f_X8_rule_l1 200 0 (nI r) σ (-1) 0 = some ((q_mr R σ r).1, nI R) from
    q_lp (fun t (a : Int32) i => f_X8_rule_l1 t 0 (nI r) σ a i) (fun i => (q_ru (fun j => q_if σ j (k_I σ 33 0 r)) (fun j => q_tl (k_I σ 31 0 r) (k_I σ 20 0 j)) (fun j => k_I σ 21 0 j) i).1) _ R (by omega) (fun t i hi => by
      show f_X8_rule_l1 (t + 1) 0 (nI r) σ _ (nI i) = f_X8_rule_l1 t 0 (nI r) σ (q_ru _ _ _ (i + 1)).1 (nI (i + 1))
      have hj := q_ru_j (ho := fun j => q_if σ j (k_I σ 33 0 r)) (tl := fun j => q_tl (k_I σ 31 0 r) (k_I σ 20 0 j)) (rk := fun j => k_I σ 21 0 j) i
      generalize hp : q_ru (fun j => q_if σ j (k_I σ 33 0 r)) (fun j => q_tl (k_I σ 31 0 r) (k_I σ 20 0 j)) (fun j => k_I σ 21 0 j) i = p at hj ⊢
      rw [f_X8_rule_l1, h.R, if_neg (nI_ge hi (by omega)), h.q.2.2.2.2.1, Option.bind_some, if_pos (of_eq_true (q_g hr (by omega))), q_c (by omega), q_inForce h (by omega), Option.bind_some, h.q.2.2.1, Option.bind_some, if_pos (q_g1 hr (by omega)), h.p.1, Option.bind_some, if_pos (of_eq_true (q_g (by omega : i < 12) (by omega))), q_c (by omega), nI_succ, q_ru, hp]
      by_cases e1 : q_if σ i (k_I σ 33 0 r) = 0
      · simp [e1]
      · by_cases e2 : ((k_I σ 31 0 r >>> (k_I σ 20 0 i &&& 31)) &&& 1) = 1
        · have e2' : q_tl (k_I σ 31 0 r) (k_I σ 20 0 i) = 1 := if_pos e2
          rw [if_neg e1, if_pos e2]
          rcases hj with rfl | ⟨j, hj1, rfl, -⟩
          · have e3 : ¬ k_I σ 21 0 i < -1 := fun q => by
              have h1 := hrk i hi
              rw [Int32.lt_iff_toInt_lt] at q
              rw [Int32.le_iff_toInt_le] at h1
              have e4 : (-1 : Int32).toInt = -1 := by decide
              have e5 : (0 : Int32).toInt = 0 := by decide
              omega
            rw [if_pos (by decide)]
            simp [e1, e2', e3]
          · rw [if_neg (nI_pos (by omega)), h.p.2.1, Option.bind_some, if_pos (q_g1 (by omega : i < 12) (by omega)), if_pos (of_eq_true (q_g (by omega : j < 12) (by omega))), q_c (by omega)]
            by_cases e3 : k_I σ 21 0 i < k_I σ 21 0 j <;> simp [e1, e2', e3]
        · have e2' : q_tl (k_I σ 31 0 r) (k_I σ 20 0 i) = 0 := if_neg e2
          rw [if_neg e1, if_neg e2]
          simp [e2']) (fun t => by
      show f_X8_rule_l1 (t + 1) 0 (nI r) σ _ _ = _
      rw [f_X8_rule_l1, h.R, if_pos (Int32.le_refl _)]
      rfl)]
  rfl
