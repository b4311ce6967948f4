/-! ===== THE PURE PART: precedents and outcomes ===== -/
def q_s0 : k_S := (fun _ _ _ => 0, fun _ _ _ => 0, fun _ _ _ => 0, fun _ _ _ => none, fun _ => 0, fun _ => 0)
def q_bc (a : Int32) : Int32 := (f_J6_bitCount_0f7a4 q_s0 a).getD 0
theorem q_bitc (σ : k_S) (a : Int32) : f_J6_bitCount_0f7a4 σ a = some (q_bc a) := rfl
def q_gi (o : Int32) : Int32 := if o = 103 then 1 else if o = 105 then 1 else 0
theorem q_within {σ : k_S} (h : q_H σ) {s r : Nat} (hs : s < 2) (hr : r < 20) : f_X5_isWithin σ s (nI r) = some 1 := by
  have e : ¬ (20 : Int32) ≤ nI r := nI_ge (b := 20) hr (by omega)
  unfold f_X5_isWithin
  rw [if_neg (nI_pos (by omega)), (h.s hs).1, Option.bind_some, if_neg e, (h.s hs).2, Option.bind_some, if_neg e]
theorem q_outcomeOf {σ : k_S} (h : q_H σ) {s r : Nat} (hs : s < 2) (hr : r < 20) (hc : k_isC (k_I σ 10 s r) = true) : f_X5_outcomeOf σ s (nI r) = some (k_I σ 10 s r) := by
  unfold f_X5_outcomeOf
  rw [q_within h hs hr, Option.bind_some, if_neg (by decide), (h.s hs).1, Option.bind_some, if_pos (of_eq_true (q_g hr (by omega))), q_c (by omega), if_pos hc]
theorem q_outcomeOf1 {σ : k_S} {s : Nat} : f_X5_outcomeOf σ s (-1) = some 45 := rfl
theorem q_turnOf {σ : k_S} (h : q_H σ) {s r : Nat} (hs : s < 2) (hr : r < 20) : f_X5_turnOf σ s (nI r) = some (k_I σ 11 s r) := by
  unfold f_X5_turnOf
  rw [q_within h hs hr, Option.bind_some, if_neg (by decide), (h.s hs).2, Option.bind_some, if_pos (of_eq_true (q_g hr (by omega))), q_c (by omega)]
theorem q_isgi {σ : k_S} (h : q_H σ) {s r : Nat} (hs : s < 2) (hr : r < 20) (hc : k_isC (k_I σ 10 s r) = true) : f_X5_isGuiltyOrInnocent σ s (nI r) = some (q_gi (k_I σ 10 s r)) := by
  unfold f_X5_isGuiltyOrInnocent q_gi
  rw [q_outcomeOf h hs hr hc, Option.bind_some]
  split
  · rfl
  · split <;> rfl
theorem q_common (σ : k_S) (a b : Nat) : f_X7_commonKinds σ a b = some (q_bc (k_I σ 5 a 3 &&& k_I σ 5 b 3)) := rfl
/-- the precedent of 'me' among the first n, and the likeness to it; -1, 0 for none -/
def q_pr (me : Nat) (fa out tn : Nat → Int32) : Nat → Int32 × Int32
  | 0 => (-1, 0)
  | i + 1 => if i = me ∨ q_gi (out i) = 0 ∨ q_bc (fa me &&& fa i) < 2 ∨ q_bc (fa me &&& fa i) < (q_pr me fa out tn i).2 then q_pr me fa out tn i
    else if (q_pr me fa out tn i).2 < q_bc (fa me &&& fa i) then (nI i, q_bc (fa me &&& fa i))
    else if tn i ≤ tn (q_pr me fa out tn i).1.toNatClampNeg then q_pr me fa out tn i else (nI i, q_bc (fa me &&& fa i))
theorem q_pr_j {me : Nat} {fa out tn : Nat → Int32} : ∀ (n : Nat), q_pr me fa out tn n = (-1, 0) ∨ ∃ j, j < n ∧ q_pr me fa out tn n = (nI j, q_bc (fa me &&& fa j)) ∧ q_gi (out j) ≠ 0 ∧ j ≠ me
  | 0 => Or.inl rfl
  | n + 1 => by
    have ih : q_pr me fa out tn n = (-1, 0) ∨ ∃ j, j < n + 1 ∧ q_pr me fa out tn n = (nI j, q_bc (fa me &&& fa j)) ∧ q_gi (out j) ≠ 0 ∧ j ≠ me := by
      rcases q_pr_j (me := me) (fa := fa) (out := out) (tn := tn) n with h | ⟨j, h1, h2⟩
      · exact Or.inl h
      · exact Or.inr ⟨j, by omega, h2⟩
    unfold q_pr
    by_cases e : n = me ∨ q_gi (out n) = 0 ∨ q_bc (fa me &&& fa n) < 2 ∨ q_bc (fa me &&& fa n) < (q_pr me fa out tn n).2
    · rw [if_pos e]
      exact ih
    · rw [if_neg e]
      have new : ∃ j, j < n + 1 ∧ (nI n, q_bc (fa me &&& fa n)) = (nI j, q_bc (fa me &&& fa j)) ∧ q_gi (out j) ≠ 0 ∧ j ≠ me := ⟨n, by omega, rfl, fun q => e (Or.inr (Or.inl q)), fun q => e (Or.inl q)⟩
      split
      · exact Or.inr new
      · split
        · exact ih
        · exact Or.inr new
theorem q_pr_c {me : Nat} {fa out tn fa' out' tn' : Nat → Int32} (hme : fa me = fa' me) : ∀ {n : Nat}, n ≤ 200 → (∀ i, i < n → out i = out' i ∧ (q_gi (out i) ≠ 0 → fa i = fa' i)) → (∀ i j, i < n → j < n → q_gi (out i) ≠ 0 → q_gi (out j) ≠ 0 → (tn i ≤ tn j ↔ tn' i ≤ tn' j)) → q_pr me fa out tn n = q_pr me fa' out' tn' n
  | 0, _, _, _ => rfl
  | n + 1, hn, h, ht => by
    have e := q_pr_c (n := n) hme (by omega) (fun i hi => h i (by omega)) (fun i j hi hj => ht i j (by omega) (by omega))
    have hj := q_pr_j (me := me) (fa := fa) (out := out) (tn := tn) n
    obtain ⟨h1, h2⟩ := h n (by omega)
    unfold q_pr
    rw [← e, ← h1]
    by_cases e1 : n = me
    · rw [if_pos (Or.inl e1), if_pos (Or.inl e1)]
    by_cases e2 : q_gi (out n) = 0
    · rw [if_pos (Or.inr (Or.inl e2)), if_pos (Or.inr (Or.inl e2))]
    rw [← h2 e2, ← hme]
    generalize hp : q_pr me fa out tn n = p at hj ⊢
    rcases hj with rfl | ⟨j, hj1, rfl, hj2, -⟩
    · by_cases e3 : q_bc (fa me &&& fa n) < 2
      · rw [if_pos (Or.inr (Or.inr (Or.inl e3))), if_pos (Or.inr (Or.inr (Or.inl e3)))]
      · have e4 : (0 : Int32) < q_bc (fa me &&& fa n) := by
          rw [Int32.not_lt, Int32.le_iff_toInt_le] at e3
          rw [Int32.lt_iff_toInt_lt]
          have e5 : (2 : Int32).toInt = 2 := by decide
          have e6 : (0 : Int32).toInt = 0 := by decide
          omega
        rw [if_pos e4, if_pos e4]
    · rw [q_c (by omega : j < 2 ^ 31)]
      have := ht n j (by omega) (by omega) e2 hj2
      by_cases e7 : tn n ≤ tn j
      · rw [if_pos e7, if_pos (this.mp e7)]
      · rw [if_neg e7, if_neg (fun q => e7 (this.mpr q))]
/-- those that no decision stands of do not count -/
theorem q_pr_x {me : Nat} {fa out tn : Nat → Int32} {n : Nat} : ∀ {k : Nat}, (∀ i, n ≤ i → i < n + k → q_gi (out i) = 0) → q_pr me fa out tn (n + k) = q_pr me fa out tn n
  | 0, _ => rfl
  | k + 1, h => by
    show q_pr me fa out tn ((n + k) + 1) = _
    unfold q_pr
    rw [if_pos (Or.inr (Or.inl (h (n + k) (by omega) (by omega)))), q_pr_x (fun i h1 h2 => h i h1 (by omega))]
    cases n <;> rfl
def q_hp (σ : k_S) (s r : Nat) : Int32 × Int32 := q_pr r (fun j => k_I σ 5 j 3) (fun j => k_I σ 10 s j) (fun j => k_I σ 11 s j) (k_Z σ 15)
def q_so (σ : k_S) (j : Nat) : Int32 := if k_I σ 38 0 j = 100 then k_I σ 39 0 j else 45
def q_mp (N : Nat) (σ : k_S) (r : Nat) : Int32 × Int32 := q_pr r (fun j => k_I σ 31 0 j) (q_so σ) (fun j => k_I σ 34 0 j) N
def q_ch (σ : k_S) (s : Nat) : Prop := ∀ r, r < 20 → k_isC (k_I σ 10 s r) = true
theorem q_precedentFor {σ : k_S} (h : q_H σ) {s r : Nat} (hs : s < 2) (hc : q_ch σ s) (hr : r < 20) (hn : k_I σ 5 r 0 = nI r) : f_X7_precedentFor σ 0 r s = some (q_hp σ s r).1 := by
  have hz := h.z15
  unfold f_X7_precedentFor
  rw [show f_X7_precedentFor_l1 200 0 r s σ (-1) 0 0 = some ((q_hp σ s r).1, (q_hp σ s r).2, nI (k_Z σ 15)) from
    q_lp (fun t (a : Int32 × Int32) i => f_X7_precedentFor_l1 t 0 r s σ a.1 a.2 i) (q_pr r (fun j => k_I σ 5 j 3) (fun j => k_I σ 10 s j) (fun j => k_I σ 11 s j)) _ (k_Z σ 15) (by omega) (fun t i hi => by
      show f_X7_precedentFor_l1 (t + 1) 0 r s σ _ _ (nI i) = f_X7_precedentFor_l1 t 0 r s σ (q_pr _ _ _ _ (i + 1)).1 (q_pr _ _ _ _ (i + 1)).2 (nI (i + 1))
      have hj := q_pr_j (me := r) (fa := fun j => k_I σ 5 j 3) (out := fun j => k_I σ 10 s j) (tn := fun j => k_I σ 11 s j) i
      generalize hp : q_pr r (fun j => k_I σ 5 j 3) (fun j => k_I σ 10 s j) (fun j => k_I σ 11 s j) i = p at hj ⊢
      rw [f_X7_precedentFor_l1, if_pos h.p3, if_neg (nI_ge hi (by omega)), hn, q_isgi h hs (by omega) (hc i (by omega)), Option.bind_some, if_pos (of_eq_true (q_g2 hi (by omega))), q_c (by omega), h.li (by omega) (by omega) hi, Option.bind_some, q_common, Option.bind_some, nI_succ, q_pr, hp]
      by_cases e1 : i = r
      · rw [if_pos (by rw [e1]), if_pos (Or.inl e1)]
      have e1' : ¬ nI i = nI r := fun q => e1 ((nI_eq (by omega) (by omega)).mp q)
      rw [if_neg e1']
      by_cases e2 : q_gi (k_I σ 10 s i) = 0
      · rw [if_pos e2, if_pos (Or.inr (Or.inl e2))]
      rw [if_neg e2]
      by_cases e3 : q_bc (k_I σ 5 r 3 &&& k_I σ 5 i 3) < 2
      · rw [if_pos e3, if_pos (Or.inr (Or.inr (Or.inl e3)))]
      rw [if_neg e3]
      by_cases e4 : q_bc (k_I σ 5 r 3 &&& k_I σ 5 i 3) < p.2
      · rw [if_neg (Int32.not_le.mpr e4), if_pos (Or.inr (Or.inr (Or.inr e4)))]
      have e8 : ¬ (i = r ∨ q_gi (k_I σ 10 s i) = 0 ∨ q_bc (k_I σ 5 r 3 &&& k_I σ 5 i 3) < 2 ∨ q_bc (k_I σ 5 r 3 &&& k_I σ 5 i 3) < p.2) := fun q => q.elim e1 (fun q => q.elim e2 (fun q => q.elim e3 e4))
      rw [if_pos (Int32.not_lt.mp e4), if_neg e8]
      by_cases e5 : p.2 < q_bc (k_I σ 5 r 3 &&& k_I σ 5 i 3)
      · rw [if_pos e5, if_pos e5]
      rw [if_neg e5, if_neg e5]
      rcases hj with rfl | ⟨j, hj1, rfl, -⟩
      · refine absurd ?_ e5
        show (0 : Int32) < _
        rw [Int32.not_lt, Int32.le_iff_toInt_le] at e3
        rw [Int32.lt_iff_toInt_lt]
        have e6 : (2 : Int32).toInt = 2 := by decide
        have e7 : (0 : Int32).toInt = 0 := by decide
        omega
      · rw [q_turnOf h hs (by omega), Option.bind_some, q_turnOf h hs (by omega), Option.bind_some, q_c (by omega)]
        by_cases e6 : k_I σ 11 s i ≤ k_I σ 11 s j
        · rw [if_pos e6, if_pos e6]
        · rw [if_neg e6, if_neg e6]) (fun t => by
      show f_X7_precedentFor_l1 (t + 1) 0 r s σ _ _ _ = _
      rw [f_X7_precedentFor_l1, if_pos h.p3, if_pos (Int32.le_refl _)]
      rfl)]
  rfl
theorem q_like {R U B N : Nat} {σ : k_S} (h : q_M R U B N σ) {a b : Nat} (ha : a < 20) (hb : b < 20) : f_X8_like σ 0 (nI a) (nI b) = some (q_bc (k_I σ 31 0 a &&& k_I σ 31 0 b)) := by
  unfold f_X8_like
  rw [h.q.2.2.1, Option.bind_some, if_pos (of_eq_true (q_g ha (by omega))), if_pos (of_eq_true (q_g hb (by omega))), q_c (by omega), q_c (by omega)]
  rfl
theorem q_stands {R U B N : Nat} {σ : k_S} (h : q_M R U B N σ) {a : Nat} (ha : a < 20) (o : Int32) : f_X8_stands σ 0 (nI a) o = some (if k_I σ 38 0 a = 100 then (if k_I σ 39 0 a = o then 1 else 0) else 0) := by
  unfold f_X8_stands
  rw [h.q.2.2.2.2.2.2.2.2.2.1, Option.bind_some, if_pos (of_eq_true (q_g ha (by omega))), q_c (by omega), h.q.2.2.2.2.2.2.2.2.2.2.1, Option.bind_some, if_pos (q_g1 ha (by omega))]
  split
  · split <;> rfl
  · rfl
theorem q_precedentOf {R U B N : Nat} {σ : k_S} (h : q_M R U B N σ) {r : Nat} (hr : r < 20) : f_X8_precedentOf σ 0 (nI r) = some (q_mp N σ r).1 := by
  have hz := h.bN
  unfold f_X8_precedentOf
  rw [show f_X8_precedentOf_l1 200 0 (nI r) σ (-1) 0 = some ((q_mp N σ r).1, nI N) from
    q_lp (fun t (a : Int32) i => f_X8_precedentOf_l1 t 0 (nI r) σ a i) (fun i => (q_pr r (fun j => k_I σ 31 0 j) (q_so σ) (fun j => k_I σ 34 0 j) i).1) _ N (by omega) (fun t i hi => by
      show f_X8_precedentOf_l1 (t + 1) 0 (nI r) σ _ (nI i) = f_X8_precedentOf_l1 t 0 (nI r) σ (q_pr _ _ _ _ (i + 1)).1 (nI (i + 1))
      have hj := q_pr_j (me := r) (fa := fun j => k_I σ 31 0 j) (out := q_so σ) (tn := fun j => k_I σ 34 0 j) i
      generalize hp : q_pr r (fun j => k_I σ 31 0 j) (q_so σ) (fun j => k_I σ 34 0 j) i = p at hj ⊢
      rw [f_X8_precedentOf_l1, h.N, if_neg (nI_ge hi (by omega)), nI_succ, q_pr, hp]
      by_cases e1 : i = r
      · rw [if_pos (by rw [e1]), if_pos (Or.inl e1)]
      have e1' : ¬ nI i = nI r := fun q => e1 ((nI_eq (by omega) (by omega)).mp q)
      have tail : q_gi (q_so σ i) ≠ 0 → ((if (2 : Int32) ≤ q_bc (k_I σ 31 0 r &&& k_I σ 31 0 i) then (if p.1 < 0 then f_X8_precedentOf_l1 t 0 (nI r) σ (nI i) (nI i + 1) else ((f_X8_like σ 0 (nI r) (nI i)).bind fun v10 => ((f_X8_like σ 0 (nI r) p.1).bind fun v12 => (if v12 < v10 then f_X8_precedentOf_l1 t 0 (nI r) σ (nI i) (nI i + 1) else ((f_X8_like σ 0 (nI r) (nI i)).bind fun v15 => ((f_X8_like σ 0 (nI r) p.1).bind fun v17 => (if v15 = v17 then ((k_P σ 1 0 20).bind fun j20 => (if 0 ≤ nI i ∧ (nI i).toNatClampNeg < 20 then (if 0 ≤ p.1 ∧ p.1.toNatClampNeg < 20 then (if k_I σ 34 j20 (nI i).toNatClampNeg ≤ k_I σ 34 j20 p.1.toNatClampNeg then f_X8_precedentOf_l1 t 0 (nI r) σ p.1 (nI i + 1) else f_X8_precedentOf_l1 t 0 (nI r) σ (nI i) (nI i + 1)) else none) else none)) else f_X8_precedentOf_l1 t 0 (nI r) σ p.1 (nI i + 1)))))))) else f_X8_precedentOf_l1 t 0 (nI r) σ p.1 (nI i + 1)) : Option (Int32 × Int32)) = f_X8_precedentOf_l1 t 0 (nI r) σ (if i = r ∨ q_gi (q_so σ i) = 0 ∨ q_bc (k_I σ 31 0 r &&& k_I σ 31 0 i) < 2 ∨ q_bc (k_I σ 31 0 r &&& k_I σ 31 0 i) < p.2 then p else if p.2 < q_bc (k_I σ 31 0 r &&& k_I σ 31 0 i) then (nI i, q_bc (k_I σ 31 0 r &&& k_I σ 31 0 i)) else if k_I σ 34 0 i ≤ k_I σ 34 0 p.1.toNatClampNeg then p else (nI i, q_bc (k_I σ 31 0 r &&& k_I σ 31 0 i))).1 (nI i + 1) := by
        intro e2
        by_cases e3 : q_bc (k_I σ 31 0 r &&& k_I σ 31 0 i) < 2
        · rw [if_neg (Int32.not_le.mpr e3), if_pos (Or.inr (Or.inr (Or.inl e3)))]
        rw [if_pos (Int32.not_lt.mp e3)]
        rcases hj with rfl | ⟨j, hj1, rfl, -⟩
        · have e4 : (0 : Int32) < q_bc (k_I σ 31 0 r &&& k_I σ 31 0 i) := by
            rw [Int32.not_lt, Int32.le_iff_toInt_le] at e3
            rw [Int32.lt_iff_toInt_lt]
            have e6 : (2 : Int32).toInt = 2 := by decide
            have e7 : (0 : Int32).toInt = 0 := by decide
            omega
          rw [if_pos (by decide), if_neg (fun q => q.elim e1 (fun q => q.elim e2 (fun q => q.elim e3 (fun q => Int32.lt_irrefl (Int32.lt_trans q e4))))), if_pos e4]
        · rw [if_neg (nI_pos (by omega)), q_like h hr (by omega), Option.bind_some, q_like h hr (by omega), Option.bind_some, Option.bind_some, Option.bind_some, h.q.2.2.2.2.2.1, Option.bind_some, if_pos (of_eq_true (q_g (by omega : i < 20) (by omega))), if_pos (of_eq_true (q_g (by omega : j < 20) (by omega))), q_c (by omega), q_c (by omega)]
          dsimp only
          by_cases e4 : q_bc (k_I σ 31 0 r &&& k_I σ 31 0 i) < q_bc (k_I σ 31 0 r &&& k_I σ 31 0 j)
          · rw [if_neg (fun q => Int32.lt_irrefl (Int32.lt_trans q e4)), if_neg (fun q => by rw [q] at e4; exact Int32.lt_irrefl e4), if_pos (Or.inr (Or.inr (Or.inr e4)))]
          have e8 : ¬ (i = r ∨ q_gi (q_so σ i) = 0 ∨ q_bc (k_I σ 31 0 r &&& k_I σ 31 0 i) < 2 ∨ q_bc (k_I σ 31 0 r &&& k_I σ 31 0 i) < q_bc (k_I σ 31 0 r &&& k_I σ 31 0 j)) := fun q => q.elim e1 (fun q => q.elim e2 (fun q => q.elim e3 e4))
          rw [if_neg e8]
          by_cases e5 : q_bc (k_I σ 31 0 r &&& k_I σ 31 0 j) < q_bc (k_I σ 31 0 r &&& k_I σ 31 0 i)
          · rw [if_pos e5, if_pos e5]
          rw [if_neg e5, if_neg e5, if_pos (Int32.le_antisymm (Int32.not_lt.mp e5) (Int32.not_lt.mp e4))]
          by_cases e6 : k_I σ 34 0 i ≤ k_I σ 34 0 j
          · rw [if_pos e6, if_pos e6]
          · rw [if_neg e6, if_neg e6]
      rw [if_neg e1', q_stands h (by omega), Option.bind_some, q_stands h (by omega), Option.bind_some, q_like h hr (by omega), Option.bind_some, Option.bind_some]
      by_cases e8 : k_I σ 38 0 i = 100
      · rw [if_pos e8, if_pos e8]
        have e9 : q_so σ i = k_I σ 39 0 i := if_pos e8
        by_cases e10 : k_I σ 39 0 i = 103
        · rw [if_pos e10, if_neg (by decide)]
          rw [q_like h hr (by omega)] at tail
          simp only [Option.bind_some] at tail ⊢
          exact tail (by rw [e9, e10]; decide)
        · rw [if_neg e10, if_pos rfl]
          by_cases e11 : k_I σ 39 0 i = 105
          · rw [if_pos e11, if_neg (by decide)]
            rw [q_like h hr (by omega)] at tail
            simp only [Option.bind_some] at tail ⊢
            exact tail (by rw [e9, e11]; decide)
          · rw [if_neg e11, if_pos rfl, if_pos (Or.inr (Or.inl (by rw [e9]; unfold q_gi; rw [if_neg e10, if_neg e11])))]
      · rw [if_neg e8, if_neg e8, if_pos rfl, if_pos rfl, if_pos (Or.inr (Or.inl (by unfold q_so; rw [if_neg e8]; decide)))]) (fun t => by
      show f_X8_precedentOf_l1 (t + 1) 0 (nI r) σ _ _ = _
      rw [f_X8_precedentOf_l1, h.N, if_pos (Int32.le_refl _)]
      rfl)]
  rfl
/-- the outcome: of the rule ru, whether it forbids fb, what the precedent's outcome is e -/
def q_fo (ru : Int32) (fb : Nat → Int32) (e sF sA : Int32) : Int32 := if ru < 0 then 110 else if fb ru.toNatClampNeg = 0 then 119 else if sF + (if e = 103 then 5 else 0) ≤ sA + (if e = 105 then 5 else 0) then 105 else 103
def q_eo (pr : Int32) (out : Nat → Int32) : Int32 := if pr < 0 then 45 else out pr.toNatClampNeg
def q_hf (σ : k_S) (s r : Nat) (sF sA : Int32) : Int32 := q_fo (q_hr σ r).1 (fun j => k_I σ 2 j 1) (q_eo (q_hp σ s r).1 (fun j => k_I σ 10 s j)) sF sA
def q_mf (R N : Nat) (σ : k_S) (r : Nat) (sF sA : Int32) : Int32 := q_fo (q_mr R σ r).1 (fun j => k_I σ 28 0 j) (q_eo (q_mp N σ r).1 (q_so σ)) sF sA
theorem q_findOutcome {σ : k_S} (h : q_H σ) {s r : Nat} (hs : s < 2) (hc : q_ch σ s) (hr : r < 20) (hn : k_I σ 5 r 0 = nI r) (sF sA : Int32) : f_X7_findOutcome σ 0 r sF sA s = some (q_hf σ s r sF sA) := by
  have hz := h.z12
  have hz2 := h.z15
  unfold f_X7_findOutcome q_hf q_fo
  rw [q_ruleFor h, Option.bind_some]
  have hj : q_hr σ r = (-1, -1) ∨ _ := q_ru_j _
  rcases hj with e | ⟨j, hj1, e, -⟩
  · rw [e, if_pos (by decide), if_pos (by decide)]
  · rw [show q_hr σ r = (nI j, _) from e]
    dsimp only
    rw [if_neg (nI_pos (by omega)), if_neg (nI_pos (by omega)), if_pos h.p0, if_pos (nI_lt hj1 (by omega)), if_pos (of_eq_true (q_g2 hj1 (by omega))), q_c (by omega), h.li (by omega) (by omega) hj1, Option.bind_some]
    by_cases e1 : k_I σ 2 j 1 = 0
    · rw [if_pos e1, if_pos e1]
    rw [if_neg e1, if_neg e1, q_precedentFor h hs hc hr hn, Option.bind_some]
    have ho : f_X5_outcomeOf σ s (q_hp σ s r).1 = some (q_eo (q_hp σ s r).1 (fun j => k_I σ 10 s j)) := by
      have hj2 : q_hp σ s r = (-1, 0) ∨ _ := q_pr_j _
      unfold q_eo
      rcases hj2 with e2 | ⟨i, hi1, e2, -⟩
      · rw [e2, q_outcomeOf1]
        rfl
      · rw [show q_hp σ s r = (nI i, _) from e2]
        dsimp only
        rw [q_outcomeOf h hs (by omega) (hc i (by omega)), if_neg (nI_pos (by omega)), q_c (by omega)]
    rw [ho, Option.bind_some]
    generalize q_eo (q_hp σ s r).1 (fun j => k_I σ 10 s j) = e2
    by_cases e3 : e2 = 103
    · subst e3
      have k1 : ¬ (103 : Int32) = 105 := by decide
      rw [if_pos rfl, if_neg k1, if_pos rfl, if_neg k1]
      split <;> rfl
    · rw [if_neg e3, if_neg e3]
      by_cases e4 : e2 = 105
      · rw [if_pos e4, if_pos e4]
        split <;> rfl
      · rw [if_neg e4, if_neg e4]
        split <;> rfl
theorem q_so_gi {σ : k_S} {j : Nat} (h : q_gi (q_so σ j) ≠ 0) : k_I σ 38 0 j = 100 := by
  refine Classical.byContradiction fun e => h ?_
  unfold q_so
  rw [if_neg e]
  decide
theorem q_outcomeBy {R U B N : Nat} {σ : k_S} (h : q_M R U B N σ) {r : Nat} (hr : r < 20) (hrk : ∀ j, j < R → 0 ≤ k_I σ 21 0 j) (sF sA : Int32) : f_X8_outcomeBy σ 0 (nI r) sF sA = some (q_mf R N σ r sF sA) := by
  have hz := h.bR
  have hz2 := h.bN
  unfold f_X8_outcomeBy q_mf q_fo
  rw [q_rule h hr hrk, Option.bind_some]
  have hj : q_mr R σ r = (-1, -1) ∨ _ := q_ru_j _
  rcases hj with e | ⟨j, hj1, e, -⟩
  · rw [e, if_neg (by decide), if_pos (by decide)]
  · rw [show q_mr R σ r = (nI j, _) from e]
    dsimp only
    rw [if_pos (q_0 (by omega)), if_neg (nI_pos (by omega)), h.p.2.2.2.2.2.2.2.2, Option.bind_some, if_pos (of_eq_true (q_g (by omega : j < 12) (by omega))), q_c (by omega)]
    by_cases e1 : k_I σ 28 0 j = 0
    · rw [if_pos e1, if_pos e1]
    rw [if_neg e1, if_neg e1, q_precedentOf h hr, Option.bind_some]
    have hj2 : q_mp N σ r = (-1, 0) ∨ _ := q_pr_j _
    rcases hj2 with e2 | ⟨i, hi1, e2, e3, -⟩
    · rw [e2, if_pos (by decide), if_pos (by decide)]
      show _ = some (if sF + (if (45 : Int32) = 103 then 5 else 0) ≤ sA + (if (45 : Int32) = 105 then 5 else 0) then 105 else 103)
      have k1 : ¬ (45 : Int32) = 103 := by decide
      have k2 : ¬ (45 : Int32) = 105 := by decide
      rw [if_neg k1, if_neg k2]
      split <;> rfl
    · rw [show q_mp N σ r = (nI i, _) from e2]
      unfold q_eo
      dsimp only
      have e4 : q_so σ i = k_I σ 39 0 i := if_pos (q_so_gi e3)
      rw [if_neg (nI_pos (by omega)), if_neg (nI_pos (by omega)), h.q.2.2.2.2.2.2.2.2.2.2.1, Option.bind_some, if_pos (of_eq_true (q_g (by omega : i < 20) (by omega))), q_c (by omega), e4]
      by_cases e5 : k_I σ 39 0 i = 103
      · have k1 : ¬ k_I σ 39 0 i = 105 := by rw [e5]; decide
        rw [if_pos e5, if_pos e5, if_neg (nI_pos (by omega)), if_pos (q_g1 (by omega : i < 20) (by omega)), if_neg k1, if_neg k1]
        split <;> rfl
      · rw [if_neg e5, if_neg e5, if_neg (nI_pos (by omega)), if_pos (q_g1 (by omega : i < 20) (by omega))]
        by_cases e6 : k_I σ 39 0 i = 105
        · rw [if_pos e6, if_pos e6]
          split <;> rfl
        · rw [if_neg e6, if_neg e6]
          split <;> rfl
