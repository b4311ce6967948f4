/-! ===== THE PURE PART: the other loops ===== -/
def q_hc (σ : k_S) (d : Int32) (a b : Nat) : Int32 := if q_ho σ a d = 0 then 0 else if q_ho σ b d = 0 then 0 else if k_I σ 2 a 0 = k_I σ 2 b 0 then (if k_I σ 2 a 2 = k_I σ 2 b 2 then (if k_I σ 2 a 1 = k_I σ 2 b 1 then 0 else 1) else 0) else 0
theorem q_inConflict (σ : k_S) (d : Int32) (a b : Nat) : f_X7_areInConflict σ a b d = some (q_hc σ d a b) := by
  unfold f_X7_areInConflict q_hc
  rw [q_holds, Option.bind_some, q_holds, Option.bind_some]
  by_cases e1 : q_ho σ a d = 0
  · rw [if_pos e1, if_pos e1]
  rw [if_neg e1, if_neg e1]
  by_cases e2 : q_ho σ b d = 0
  · rw [if_pos e2, if_pos e2]
  rw [if_neg e2, if_neg e2]
  split
  · split
    · split <;> rfl
    · rfl
  · rfl
theorem q_add0 (x : Int32) (f : Nat → Int32) : x + q_sI f 0 = x := Int32.add_zero x
theorem q_conflicts2 {σ : k_S} (h : q_H σ) (d x : Int32) {i : Nat} (hi : i < k_Z σ 12) : f_X7_conflicts_l2 200 0 d (nI i) σ x 0 = some (x + q_sI (fun j => q_01 (q_hc σ d i j)) i, nI i) := by
  have hz := h.z12
  have key := q_lp (fun t a j => f_X7_conflicts_l2 t 0 d (nI i) σ a j) (fun j => x + q_sI (fun j => q_01 (q_hc σ d i j)) j) (x + q_sI (fun j => q_01 (q_hc σ d i j)) i, nI i) i (by omega) (fun t j hj => by
      show f_X7_conflicts_l2 (t + 1) 0 d (nI i) σ (x + q_sI _ j) (nI j) = f_X7_conflicts_l2 t 0 d (nI i) σ (x + (q_sI _ j + q_01 (q_hc σ d i j))) (nI (j + 1))
      rw [f_X7_conflicts_l2, if_neg (nI_ge hj (by omega)), if_pos h.p0, if_pos (of_eq_true (q_g2 hi (by omega))), q_c (by omega), h.li (by omega) (by omega) hi, Option.bind_some, if_pos (of_eq_true (q_g2 (by omega : j < k_Z σ 12) (by omega))), q_c (by omega), h.li (by omega) (by omega) (by omega), Option.bind_some, q_inConflict, Option.bind_some, nI_succ, ← Int32.add_assoc]
      by_cases e : q_hc σ d i j = 0 <;> simp [e, q_01]) (fun t => by
      show f_X7_conflicts_l2 (t + 1) 0 d (nI i) σ _ _ = _
      rw [f_X7_conflicts_l2, if_pos (Int32.le_refl _)])
  rw [q_add0] at key
  exact key
theorem q_conflicts {σ : k_S} (h : q_H σ) (d : Int32) : f_X7_conflicts_l1 200 0 d σ 0 0 = some (q_sI (fun i => q_sI (fun j => q_01 (q_hc σ d i j)) i) (k_Z σ 12), nI (k_Z σ 12)) := by
  have hz := h.z12
  exact q_lp (fun t a i => f_X7_conflicts_l1 t 0 d σ a i) (q_sI (fun i => q_sI (fun j => q_01 (q_hc σ d i j)) i)) _ (k_Z σ 12) (by omega) (fun t i hi => by
      show f_X7_conflicts_l1 (t + 1) 0 d σ (q_sI _ i) (nI i) = f_X7_conflicts_l1 t 0 d σ (q_sI _ i + q_sI (fun j => q_01 (q_hc σ d i j)) i) (nI (i + 1))
      rw [f_X7_conflicts_l1, if_pos h.p0, if_neg (nI_ge hi (by omega)), q_conflicts2 h d _ hi, Option.bind_some, nI_succ]) (fun t => by
      show f_X7_conflicts_l1 (t + 1) 0 d σ _ _ = _
      rw [f_X7_conflicts_l1, if_pos h.p0, if_pos (Int32.le_refl _)])
def q_mc (σ : k_S) (d : Int32) (a b : Nat) : Int32 := if q_if σ a d = 0 then 0 else if q_if σ b d = 0 then 0 else if k_I σ 20 0 a = k_I σ 20 0 b then (if k_I σ 21 0 a = k_I σ 21 0 b then (if k_I σ 28 0 a = k_I σ 28 0 b then 0 else 1) else 0) else 0
theorem q_m_conflicts2 {R U B N : Nat} {σ : k_S} (h : q_M R U B N σ) (d x : Int32) {i : Nat} (hi : i < R) : f_X8_conflicts_l2 200 0 d (nI i) σ x 0 = some (x + q_sI (fun j => q_01 (q_mc σ d i j)) i, nI i) := by
  have hz := h.bR
  have key := q_lp (fun t a j => f_X8_conflicts_l2 t 0 d (nI i) σ a j) (fun j => x + q_sI (fun j => q_01 (q_mc σ d i j)) j) (x + q_sI (fun j => q_01 (q_mc σ d i j)) i, nI i) i (by omega) (fun t j hj => by
      show f_X8_conflicts_l2 (t + 1) 0 d (nI i) σ (x + q_sI _ j) (nI j) = f_X8_conflicts_l2 t 0 d (nI i) σ (x + (q_sI _ j + q_01 (q_mc σ d i j))) (nI (j + 1))
      have gi : 0 ≤ nI i ∧ (nI i).toNatClampNeg < 12 := of_eq_true (q_g (by omega) (by omega))
      have gj : 0 ≤ nI j ∧ (nI j).toNatClampNeg < 12 := of_eq_true (q_g (by omega) (by omega))
      rw [f_X8_conflicts_l2, if_neg (nI_ge hj (by omega)), q_inForce h (by omega), Option.bind_some, q_inForce h (by omega), Option.bind_some, h.p.1, Option.bind_some, if_pos gi, if_pos gj, h.p.2.1, Option.bind_some, if_pos gi, if_pos gj, h.p.2.2.2.2.2.2.2.2, Option.bind_some, if_pos gi, if_pos gj, q_c (by omega), q_c (by omega), nI_succ, ← Int32.add_assoc]
      unfold q_mc
      by_cases e1 : q_if σ i d = 0
      · simp [e1, q_01]
      by_cases e2 : q_if σ j d = 0
      · simp [e1, e2, q_01]
      by_cases e3 : k_I σ 20 0 i = k_I σ 20 0 j
      · by_cases e4 : k_I σ 21 0 i = k_I σ 21 0 j
        · by_cases e5 : k_I σ 28 0 i = k_I σ 28 0 j <;> simp [e1, e2, e3, e4, e5, q_01]
        · simp [e1, e2, e3, e4, q_01]
      · simp [e1, e2, e3, q_01]) (fun t => by
      show f_X8_conflicts_l2 (t + 1) 0 d (nI i) σ _ _ = _
      rw [f_X8_conflicts_l2, if_pos (Int32.le_refl _)])
  rw [q_add0] at key
  exact key
theorem q_m_conflicts {R U B N : Nat} {σ : k_S} (h : q_M R U B N σ) (d : Int32) : f_X8_conflicts_l1 200 0 d σ 0 0 = some (q_sI (fun i => q_sI (fun j => q_01 (q_mc σ d i j)) i) R, nI R) := by
  have hz := h.bR
  exact q_lp (fun t a i => f_X8_conflicts_l1 t 0 d σ a i) (q_sI (fun i => q_sI (fun j => q_01 (q_mc σ d i j)) i)) _ R (by omega) (fun t i hi => by
      show f_X8_conflicts_l1 (t + 1) 0 d σ (q_sI _ i) (nI i) = f_X8_conflicts_l1 t 0 d σ (q_sI _ i + q_sI (fun j => q_01 (q_mc σ d i j)) i) (nI (i + 1))
      rw [f_X8_conflicts_l1, h.R, if_neg (nI_ge hi (by omega)), q_m_conflicts2 h d _ hi, Option.bind_some, nI_succ]) (fun t => by
      show f_X8_conflicts_l1 (t + 1) 0 d σ _ _ = _
      rw [f_X8_conflicts_l1, h.R, if_pos (Int32.le_refl _)])
/-! until when -/
def q_hu (σ : k_S) (u : Nat) : Nat → Int32
  | 0 => k_I σ 0 0 8
  | j + 1 => if k_P σ 6 j 0 = some u then (if q_inc σ j (k_I σ 0 0 8) = 0 then q_hu σ u j else if q_hu σ u j < k_I σ 6 j 2 then k_I σ 6 j 2 else q_hu σ u j) else q_hu σ u j
theorem q_until {σ : k_S} (h : q_H σ) (hu : q_Su σ) (x : Int32) (u : Nat) : f_X7_sanctionedUntil_l1 200 0 x u σ (k_I σ 0 0 8) 0 = some (q_hu σ u (k_Z σ 16), nI (k_Z σ 16)) := by
  have hz := h.z16
  exact q_lp (fun t a i => f_X7_sanctionedUntil_l1 t 0 x u σ a i) (q_hu σ u) _ (k_Z σ 16) (by omega) (fun t i hi => by
      show f_X7_sanctionedUntil_l1 (t + 1) 0 x u σ (q_hu σ u i) (nI i) = f_X7_sanctionedUntil_l1 t 0 x u σ (q_hu σ u (i + 1)) (nI (i + 1))
      obtain ⟨v, hv⟩ := hu i hi
      rw [f_X7_sanctionedUntil_l1, if_pos h.p4, if_neg (nI_ge hi (by omega)), if_pos (of_eq_true (q_g2 hi (by omega))), q_c (by omega), h.li (by omega) (by omega) hi, Option.bind_some, hv, Option.bind_some, q_includes, Option.bind_some, nI_succ, q_hu, hv]
      by_cases e : v = u
      · by_cases e2 : q_inc σ i (k_I σ 0 0 8) = 0
        · simp [e, e2]
        · by_cases e3 : q_hu σ u i < k_I σ 6 i 2 <;> simp [e, e2, e3]
      · simp [e]) (fun t => by
      show f_X7_sanctionedUntil_l1 (t + 1) 0 x u σ _ _ = _
      rw [f_X7_sanctionedUntil_l1, if_pos h.p4, if_pos (Int32.le_refl _)])
def q_mu (σ : k_S) (u : Nat) : Nat → Int32
  | 0 => 0
  | r + 1 => if k_I σ 30 0 r = nI u then (if q_mi σ r (k_I σ 1 0 14) = 0 then q_mu σ u r else if q_mu σ u r < k_I σ 37 0 r then k_I σ 37 0 r else q_mu σ u r) else q_mu σ u r
theorem q_m_until {R U B N : Nat} {σ : k_S} (h : q_M R U B N σ) (u : Nat) : f_X8_sanctionedUntil_l1 200 0 (nI u) σ 0 0 = some (q_mu σ u N, nI N) := by
  have hz := h.bN
  exact q_lp (fun t a i => f_X8_sanctionedUntil_l1 t 0 (nI u) σ a i) (q_mu σ u) _ N (by omega) (fun t i hi => by
      show f_X8_sanctionedUntil_l1 (t + 1) 0 (nI u) σ (q_mu σ u i) (nI i) = f_X8_sanctionedUntil_l1 t 0 (nI u) σ (q_mu σ u (i + 1)) (nI (i + 1))
      have gi : 0 ≤ nI i ∧ (nI i).toNatClampNeg < 20 := of_eq_true (q_g (by omega) (by omega))
      rw [f_X8_sanctionedUntil_l1, h.N, if_neg (nI_ge hi (by omega)), h.q.2.1, Option.bind_some, if_pos gi, q_m_includes h (by omega), Option.bind_some, h.q.2.2.2.2.2.2.2.2.1, Option.bind_some, if_pos gi, q_c (by omega), nI_succ, q_mu]
      by_cases e : k_I σ 30 0 i = nI u
      · by_cases e2 : q_mi σ i (k_I σ 1 0 14) = 0
        · simp [e, e2]
        · by_cases e3 : q_mu σ u i < k_I σ 37 0 i <;> simp [e, e2, e3]
      · simp [e]) (fun t => by
      show f_X8_sanctionedUntil_l1 (t + 1) 0 (nI u) σ _ _ = _
      rw [f_X8_sanctionedUntil_l1, h.N, if_pos (Int32.le_refl _)])
/-! the first of a kind -/
theorem q_first (c : Nat → Bool) : ∀ n : Nat, (∀ i, i < n → c i = false) ∨ ∃ i, i < n ∧ c i = true ∧ ∀ k, k < i → c k = false
  | 0 => Or.inl (fun i hi => by omega)
  | n + 1 => by
    rcases q_first c n with h | ⟨i, h1, h2⟩
    · cases e : c n with
      | false => exact Or.inl (fun i hi => by
          by_cases e2 : i = n
          · rw [e2]; exact e
          · exact h i (by omega))
      | true => exact Or.inr ⟨n, by omega, e, h⟩
    · exact Or.inr ⟨i, by omega, h2⟩
def q_bk (σ : k_S) (fa ev : Int32) (b : Nat) : Bool := !(decide (q_tl fa (k_I σ 4 b 0) = 0)) && !(decide (ev < k_I σ 4 b 1))
theorem q_bk_f {σ : k_S} {fa ev : Int32} {b : Nat} (h : q_bk σ fa ev b = false) : q_tl fa (k_I σ 4 b 0) = 0 ∨ ev < k_I σ 4 b 1 := by
  unfold q_bk at h
  by_cases e : q_tl fa (k_I σ 4 b 0) = 0
  · exact Or.inl e
  · by_cases e2 : ev < k_I σ 4 b 1
    · exact Or.inr e2
    · simp [e, e2] at h
theorem q_bk_t {σ : k_S} {fa ev : Int32} {b : Nat} (h : q_bk σ fa ev b = true) : ¬ q_tl fa (k_I σ 4 b 0) = 0 ∧ ¬ ev < k_I σ 4 b 1 := by
  unfold q_bk at h
  simp only [Bool.and_eq_true, Bool.not_eq_true', decide_eq_false_iff_not] at h
  exact h
theorem q_botFor {σ : k_S} (h : q_H σ) (r : Nat) : ((∀ i, i < k_Z σ 14 → q_bk σ (k_I σ 5 r 3) (k_I σ 5 r 4) i = false) → f_X7_botFor σ 0 r = some none) ∧ ∀ i, i < k_Z σ 14 → q_bk σ (k_I σ 5 r 3) (k_I σ 5 r 4) i = true → (∀ k, k < i → q_bk σ (k_I σ 5 r 3) (k_I σ 5 r 4) k = false) → f_X7_botFor σ 0 r = some (some i) := by
  have hz := h.z14
  have stp : ∀ t i, i < k_Z σ 14 → q_bk σ (k_I σ 5 r 3) (k_I σ 5 r 4) i = false → f_X7_botFor_l1 (t + 1) 0 r σ (nI i) = f_X7_botFor_l1 t 0 r σ (nI (i + 1)) := fun t i hi hb => by
    rw [f_X7_botFor_l1, if_pos h.p2, if_neg (nI_ge hi (by omega)), if_pos (of_eq_true (q_g2 hi (by omega))), q_c (by omega), h.li (by omega) (by omega) hi, Option.bind_some, q_tells, Option.bind_some, nI_succ]
    by_cases e : q_tl (k_I σ 5 r 3) (k_I σ 4 i 0) = 0
    · rw [if_pos e]
    · rw [if_neg e, if_pos ((q_bk_f hb).resolve_left e)]
  refine ⟨fun hall => ?_, fun i hi ht hf => ?_⟩
  · unfold f_X7_botFor
    rw [show f_X7_botFor_l1 200 0 r σ 0 = some (.inl (nI (k_Z σ 14))) from
      q_lp (fun t (_ : Unit) i => f_X7_botFor_l1 t 0 r σ i) (fun _ => ()) _ (k_Z σ 14) (by omega) (fun t i hi => stp t i hi (hall i hi)) (fun t => by
        show f_X7_botFor_l1 (t + 1) 0 r σ _ = _
        rw [f_X7_botFor_l1, if_pos h.p2, if_pos (Int32.le_refl _)])]
    rfl
  · unfold f_X7_botFor
    rw [show f_X7_botFor_l1 200 0 r σ 0 = some (.inr (some i)) from
      q_lp (fun t (_ : Unit) i => f_X7_botFor_l1 t 0 r σ i) (fun _ => ()) _ i (by omega) (fun t k hk => stp t k (by omega) (hf k hk)) (fun t => by
        show f_X7_botFor_l1 (t + 1) 0 r σ _ = _
        have e := q_bk_t ht
        rw [f_X7_botFor_l1, if_pos h.p2, if_neg (nI_ge hi (by omega)), if_pos (of_eq_true (q_g2 hi (by omega))), q_c (by omega), h.li (by omega) (by omega) hi, Option.bind_some, q_tells, Option.bind_some, if_neg e.1, if_neg e.2])]
    rfl
def q_mk (σ : k_S) (fa ev : Int32) (b : Nat) : Bool := !(decide (q_tl fa (k_I σ 26 0 b) = 0)) && !(decide (ev < k_I σ 27 0 b))
theorem q_mk_f {σ : k_S} {fa ev : Int32} {b : Nat} (h : q_mk σ fa ev b = false) : q_tl fa (k_I σ 26 0 b) = 0 ∨ ev < k_I σ 27 0 b := by
  unfold q_mk at h
  by_cases e : q_tl fa (k_I σ 26 0 b) = 0
  · exact Or.inl e
  · by_cases e2 : ev < k_I σ 27 0 b
    · exact Or.inr e2
    · simp [e, e2] at h
theorem q_mk_t {σ : k_S} {fa ev : Int32} {b : Nat} (h : q_mk σ fa ev b = true) : ¬ q_tl fa (k_I σ 26 0 b) = 0 ∧ ¬ ev < k_I σ 27 0 b := by
  unfold q_mk at h
  simp only [Bool.and_eq_true, Bool.not_eq_true', decide_eq_false_iff_not] at h
  exact h
theorem q_tl1 {fa kd : Int32} (h : q_tl fa kd = 0) : ¬ ((fa >>> (kd &&& 31)) &&& 1) = 1 := fun q => by
  unfold q_tl at h
  rw [if_pos q] at h
  exact absurd h (by decide)
theorem q_tl2 {fa kd : Int32} (h : ¬ q_tl fa kd = 0) : ((fa >>> (kd &&& 31)) &&& 1) = 1 := by
  refine Classical.byContradiction fun q => h ?_
  unfold q_tl
  rw [if_neg q]
theorem q_m_bots {R U B N : Nat} {σ : k_S} (h : q_M R U B N σ) {r : Nat} (hr : r < 20) (hs : k_I σ 38 0 r = 111) (a1 a2 fa ev : Int32) : ((∀ i, i < B → q_mk σ fa ev i = false) → f_X8_file_l1 200 0 a1 a2 fa ev (nI r) σ 0 = some (nI B, σ)) ∧ ∀ i τ, i < B → q_mk σ fa ev i = true → (∀ k, k < i → q_mk σ fa ev k = false) → f_X8_decides σ 0 (nI r) (ev / 10) 0 (nI i) = some ((), τ) → q_M R U B N τ → k_I τ 38 0 r = 100 → ∃ e, f_X8_file_l1 200 0 a1 a2 fa ev (nI r) σ 0 = some (e, τ) := by
  have hz := h.bB
  have gr : 0 ≤ nI r ∧ (nI r).toNatClampNeg < 20 := of_eq_true (q_g (by omega) (by omega))
  have stp : ∀ t i, i < B → q_mk σ fa ev i = false → f_X8_file_l1 (t + 1) 0 a1 a2 fa ev (nI r) σ (nI i) = f_X8_file_l1 t 0 a1 a2 fa ev (nI r) σ (nI (i + 1)) := fun t i hi hb => by
    have gi : 0 ≤ nI i ∧ (nI i).toNatClampNeg < 4 := of_eq_true (q_g (by omega) (by omega))
    rw [f_X8_file_l1, h.B, if_neg (nI_ge hi (by omega)), h.q.2.2.2.2.2.2.2.2.2.1, Option.bind_some, if_pos gr, q_c (n := r) (by omega), if_pos hs, h.p.2.2.2.2.2.2.1, Option.bind_some, if_pos gi, h.p.2.2.2.2.2.2.2.1, Option.bind_some, if_pos gi, q_c (n := i) (by omega), nI_succ]
    by_cases e : q_tl fa (k_I σ 26 0 i) = 0
    · rw [if_neg (q_tl1 e)]
    · rw [if_pos (q_tl2 e), if_pos ((q_mk_f hb).resolve_left e)]
  refine ⟨fun hall => ?_, fun i τ hi ht hf hd hM hs2 => ?_⟩
  · exact q_lp (fun t (_ : Unit) i => f_X8_file_l1 t 0 a1 a2 fa ev (nI r) σ i) (fun _ => ()) _ B (by omega) (fun t i hi => stp t i hi (hall i hi)) (fun t => by
        show f_X8_file_l1 (t + 1) 0 a1 a2 fa ev (nI r) σ _ = _
        rw [f_X8_file_l1, h.B, if_pos (Int32.le_refl _)])
  · have key : ∀ k t, k ≤ i → i - k < t → f_X8_file_l1 (t + 1) 0 a1 a2 fa ev (nI r) σ (nI k) = some (nI (i + 1), τ) := by
      intro k t hk ht2
      induction hn : i - k generalizing k t with
      | zero =>
        have e : k = i := by omega
        subst e
        obtain ⟨u, rfl⟩ : ∃ u, t = u + 1 := ⟨t - 1, by omega⟩
        have gi : 0 ≤ nI k ∧ (nI k).toNatClampNeg < 4 := of_eq_true (q_g (by omega) (by omega))
        have e := q_mk_t ht
        rw [f_X8_file_l1, h.B, if_neg (nI_ge hi (by omega)), h.q.2.2.2.2.2.2.2.2.2.1, Option.bind_some, if_pos gr, q_c (n := r) (by omega), if_pos hs, h.p.2.2.2.2.2.2.1, Option.bind_some, if_pos gi, h.p.2.2.2.2.2.2.2.1, Option.bind_some, if_pos gi, q_c (n := k) (by omega), if_pos (q_tl2 e.1), if_neg e.2, hd, Option.bind_some, nI_1]
        have e3 : ¬ k_I τ 38 0 r = 111 := by rw [hs2]; decide
        rw [f_X8_file_l1, hM.B]
        by_cases e4 : nI B ≤ nI (k + 1)
        · rw [if_pos e4]
        · rw [if_neg e4, hM.q.2.2.2.2.2.2.2.2.2.1, Option.bind_some, if_pos gr, q_c (n := r) (by omega), if_neg e3]
      | succ m ih =>
        obtain ⟨u, rfl⟩ : ∃ u, t = u + 1 := ⟨t - 1, by omega⟩
        rw [stp (u + 1) k (by omega) (hf k (by omega))]
        exact ih (k + 1) u (by omega) (by omega) (by omega)
    exact ⟨_, key 0 199 (by omega) (by omega)⟩
