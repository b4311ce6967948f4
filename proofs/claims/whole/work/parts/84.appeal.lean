/-! ===== THE PURE PART: appeal ===== -/
theorem q_sN_two {f : Nat → Nat} {i j : Nat} (hij : i ≠ j) (h1 : 1 ≤ f i) (h2 : 1 ≤ f j) : ∀ {n : Nat}, i < n → j < n → 2 ≤ q_sN f n
  | 0, h, _ => by omega
  | n + 1, hi, hj => by
    show 2 ≤ q_sN f n + f n
    have one : ∀ k m, k < m → 1 ≤ f k → 1 ≤ q_sN f m := by
      intro k m
      induction m with
      | zero => intro h _; omega
      | succ m ih =>
        intro h hk
        show 1 ≤ q_sN f m + f m
        by_cases e : k = m
        · rw [← e]; omega
        · have := ih (by omega) hk
          omega
    by_cases e1 : i = n
    · have := one j n (by omega) h2
      rw [← e1] at this ⊢
      omega
    · by_cases e2 : j = n
      · have := one i n (by omega) h1
        rw [← e2] at this ⊢
        omega
      · have := q_sN_two hij h1 h2 (n := n) (by omega) (by omega)
        omega
theorem q_sN_one {k : Nat} : ∀ {n : Nat}, q_sN (fun j => if j = k then 1 else 0) n ≤ 1
  | 0 => by show 0 ≤ 1; omega
  | n + 1 => by
    show q_sN (fun j => if j = k then 1 else 0) n + (if n = k then 1 else 0) ≤ 1
    by_cases e : n = k
    · have : q_sN (fun j => if j = k then 1 else 0) n = 0 := q_fd_z q_cm_n (fun i hi => if_neg (by omega))
      rw [this, if_pos e]
      omega
    · rw [if_neg e]
      exact q_sN_one
/-- a sanction that lasts is one report's -/
theorem q_I.inj {T : Nat} {a m : k_S} (h : q_I T a m) {i r : Nat} (hi : i < k_Z a 15) (hr : r < k_Z a 15) (gi : k_I m 38 0 i = 100 ∧ k_I m 39 0 i = 103) (gr : k_I m 38 0 r = 100 ∧ k_I m 39 0 r = 103) (hc : q_cu a i = q_cu a r) (hl : T < q_eN a (q_cu a r)) : i = r := by
  refine Classical.byContradiction fun hne => ?_
  have hT := h.Td.2.2.1
  have e := h.Sd _ q_cm_n (fun j => if j = q_cu a r then 1 else 0) (fun j hj hd => if_neg (fun q => by
    subst q
    exact q_f1_0 h.Sn hj hd hT hl))
  have h2 : 2 ≤ q_sN (fun r' => if k_I m 38 0 r' = 100 ∧ k_I m 39 0 r' = 103 then (if (k_P a 5 r' 9).getD 0 = q_cu a r then 1 else 0) else 0) (k_Z a 15) := q_sN_two hne (by
    show 1 ≤ if k_I m 38 0 i = 100 ∧ k_I m 39 0 i = 103 then (if (k_P a 5 i 9).getD 0 = q_cu a r then 1 else 0) else 0
    rw [if_pos gi]
    show 1 ≤ if q_cu a i = q_cu a r then 1 else 0
    rw [if_pos hc]
    omega) (by
    show 1 ≤ if k_I m 38 0 r = 100 ∧ k_I m 39 0 r = 103 then (if (k_P a 5 r 9).getD 0 = q_cu a r then 1 else 0) else 0
    rw [if_pos gr]
    show 1 ≤ if q_cu a r = q_cu a r then 1 else 0
    rw [if_pos rfl]
    omega) hi hr
  have h1 := q_sN_one (k := q_cu a r) (n := k_Z a 16)
  have e' : q_sN (fun j => if j = q_cu a r then 1 else 0) (k_Z a 16) = q_sN (fun r' => if k_I m 38 0 r' = 100 ∧ k_I m 39 0 r' = 103 then (if (k_P a 5 r' 9).getD 0 = q_cu a r then 1 else 0) else 0) (k_Z a 15) := e
  omega
def q_lfA (σ : k_S) (r : Nat) (o : Int32) : k_S := k_uI (k_uI (k_uI (k_uI σ 5 r 10 1) 5 r 7 101) 5 r 11 o) 10 0 r 45
def q_ctA (T : Int32) (e : Int32) : Int32 := if T < e then T else e
def q_apH (σ : k_S) (r : Nat) (o : Int32) (p : Option Nat) : k_S := match p with
  | none => q_min (q_lfA σ r o) r 1 0 0
  | some j => k_uI (q_min (q_lfA σ r o) r 1 0 0) 6 j 2 (q_ctA (k_I σ 0 0 8) (k_I σ 6 j 2))
theorem q_lfA_I {σ : k_S} {r : Nat} {o : Int32} {l i k : Nat} : k_I (q_lfA σ r o) l i k = if l = 10 ∧ i = 0 ∧ k = r then 45 else if l = 5 ∧ i = r ∧ k = 11 then o else if l = 5 ∧ i = r ∧ k = 7 then 101 else if l = 5 ∧ i = r ∧ k = 10 then 1 else k_I σ l i k := rfl
theorem q_lfA_P {σ : k_S} {r : Nat} {o : Int32} {l i k : Nat} : k_P (q_lfA σ r o) l i k = k_P σ l i k := rfl
theorem q_lfA_Z {σ : k_S} {r : Nat} {o : Int32} {l : Nat} : k_Z (q_lfA σ r o) l = k_Z σ l := rfl
theorem q_lfA_N {σ : k_S} {r : Nat} {o : Int32} {l : Nat} : k_N (q_lfA σ r o) l = k_N σ l := rfl
theorem q_lfA_H {σ : k_S} (h : q_H σ) {r : Nat} {o : Int32} : q_H (q_lfA σ r o) := h
theorem q_apH_I {σ : k_S} {r : Nat} {o : Int32} {p : Option Nat} {l i k : Nat} (hl : l ≠ 6 ∧ l ≠ 7) : k_I (q_apH σ r o p) l i k = if l = 10 ∧ i = 0 ∧ k = r then 45 else if l = 5 ∧ i = r ∧ k = 11 then o else if l = 5 ∧ i = r ∧ k = 7 then 101 else if l = 5 ∧ i = r ∧ k = 10 then 1 else k_I σ l i k := by
  cases p with
  | none =>
    show k_I (q_min (q_lfA σ r o) r 1 0 0) l i k = _
    rw [q_min_I hl.2, q_lfA_I]
  | some j =>
    show k_I (k_uI (q_min (q_lfA σ r o) r 1 0 0) 6 j 2 _) l i k = _
    rw [q_II, if_neg (by omega), q_min_I hl.2, q_lfA_I]
theorem q_apH_6 {σ : k_S} {r : Nat} {o : Int32} {p : Option Nat} {i k : Nat} : k_I (q_apH σ r o p) 6 i k = if p = some i ∧ k = 2 then q_ctA (k_I σ 0 0 8) (k_I σ 6 i 2) else k_I σ 6 i k := by
  have e0 : k_I (q_min (q_lfA σ r o) r 1 0 0) 6 i k = k_I σ 6 i k := by
    rw [q_min_I (by decide), q_lfA_I, if_neg (by omega), if_neg (by omega), if_neg (by omega), if_neg (by omega)]
  cases p with
  | none =>
    show k_I (q_min (q_lfA σ r o) r 1 0 0) 6 i k = _
    rw [e0, if_neg (fun q => nomatch q.1)]
  | some j =>
    show k_I (k_uI (q_min (q_lfA σ r o) r 1 0 0) 6 j 2 _) 6 i k = _
    rw [q_II, e0]
    by_cases e : i = j ∧ k = 2
    · rw [if_pos ⟨rfl, e⟩, if_pos ⟨by rw [e.1], e.2⟩, e.1]
    · rw [if_neg (fun q => e q.2), if_neg (fun q => e ⟨(Option.some.inj q.1).symm, q.2⟩)]
theorem q_apH_P {σ : k_S} {r : Nat} {o : Int32} {p : Option Nat} {l i k : Nat} (hl : l ≠ 7 ∧ l ≠ 17) : k_P (q_apH σ r o p) l i k = k_P σ l i k := by
  cases p with
  | none =>
    show k_P (q_min (q_lfA σ r o) r 1 0 0) l i k = _
    rw [q_min_P hl, q_lfA_P]
  | some j =>
    show k_P (k_uI (q_min (q_lfA σ r o) r 1 0 0) 6 j 2 _) l i k = _
    rw [q_PI, q_min_P hl, q_lfA_P]
theorem q_apH_Z {σ : k_S} {r : Nat} {o : Int32} {p : Option Nat} {l : Nat} (hl : l ≠ 7) : k_Z (q_apH σ r o p) l = if l = 17 then k_Z σ 17 + 1 else k_Z σ l := by
  cases p with
  | none =>
    show k_Z (q_min (q_lfA σ r o) r 1 0 0) l = _
    rw [q_min_Z hl, q_lfA_Z, q_lfA_Z]
  | some j =>
    show k_Z (k_uI (q_min (q_lfA σ r o) r 1 0 0) 6 j 2 _) l = _
    rw [q_ZI, q_min_Z hl, q_lfA_Z, q_lfA_Z]
theorem q_apH_7 {σ : k_S} {r : Nat} {o : Int32} {p : Option Nat} {j : Nat} (hj : j ≠ k_N σ 7) : k_P (q_apH σ r o p) 7 j 0 = k_P σ 7 j 0 ∧ ∀ k, k_I (q_apH σ r o p) 7 j k = k_I σ 7 j k := by
  have e1 : k_P (q_min (q_lfA σ r o) r 1 0 0) 7 j 0 = k_P σ 7 j 0 := by rw [q_min_P7 (by rw [q_lfA_N]; exact hj), q_lfA_P]
  have e2 : ∀ k, k_I (q_min (q_lfA σ r o) r 1 0 0) 7 j k = k_I σ 7 j k := fun k => by rw [q_min_I7 (by rw [q_lfA_N]; exact hj), q_lfA_I, if_neg (by omega), if_neg (by omega), if_neg (by omega), if_neg (by omega)]
  cases p with
  | none => exact ⟨e1, e2⟩
  | some i =>
    refine ⟨?_, fun k => ?_⟩
    · show k_P (k_uI (q_min (q_lfA σ r o) r 1 0 0) 6 i 2 _) 7 j 0 = _
      rw [q_PI]; exact e1
    · show k_I (k_uI (q_min (q_lfA σ r o) r 1 0 0) 6 i 2 _) 7 j k = _
      rw [q_II, if_neg (by omega)]; exact e2 k
theorem q_apH_7n {σ : k_S} {r : Nat} {o : Int32} {p : Option Nat} : k_P (q_apH σ r o p) 7 (k_N σ 7) 0 = some r ∧ k_I (q_apH σ r o p) 7 (k_N σ 7) 1 = 1 := by
  have := q_min_n (σ := q_lfA σ r o) (r := r) (ap := 1) (sF := 0) (sA := 0)
  rw [q_lfA_N] at this
  cases p with
  | none => exact ⟨this.1, this.2.1⟩
  | some i =>
    refine ⟨?_, ?_⟩
    · show k_P (k_uI (q_min (q_lfA σ r o) r 1 0 0) 6 i 2 _) 7 _ 0 = _
      rw [q_PI]; exact this.1
    · show k_I (k_uI (q_min (q_lfA σ r o) r 1 0 0) 6 i 2 _) 7 _ 1 = _
      rw [q_II, if_neg (by omega)]; exact this.2.1
theorem q_apH_H {σ : k_S} (h : q_H σ) (hZ : k_Z σ 17 < 60) {r : Nat} {o : Int32} {p : Option Nat} : q_H (q_apH σ r o p) := by
  cases p with
  | none => exact q_min_H (q_lfA_H h) hZ
  | some j => exact q_H_uI (q_min_H (q_lfA_H h) hZ)
theorem q_apH_sm {σ : k_S} {r : Nat} {o : Int32} {p : Option Nat} : q_sm σ (q_apH σ r o p) := by
  have h1 : q_sm σ (q_min (q_lfA σ r o) r 1 0 0) := by
    unfold q_min q_lfA
    exact (((((((((q_sm.rf.uI (by omega)).uI (by omega)).uI (by omega)).uI (by omega)).new (by omega)).uP (by omega)).uI (by omega)).uI (by omega)).uI (by omega)).ladd (by omega)
  cases p with
  | none => exact h1
  | some j => exact h1.uI (by omega)
/-- what holds after an appeal -/
theorem q_appeal_I {T : Nat} {a m : k_S} (h : q_I T a m) {r : Nat} (hr : r < k_Z a 15) (hs : k_I m 38 0 r = 100) (h40 : k_I m 40 0 r = 45) : q_I T (q_apH a r (k_I a 10 0 r) (k_P a 5 r 9)) (k_uI (k_uI m 40 0 r (k_I m 39 0 r)) 38 0 r 101) := by
  have hz5 := h.H.z15
  have hT := h.Td.2.2.1
  have n7 := h.H.n7
  obtain ⟨rz1, rz2⟩ := h.roomZ hr (Or.inr h40)
  have F1 : ∀ l i k, l ≠ 5 ∧ l ≠ 6 ∧ l ≠ 7 ∧ l ≠ 10 → k_I (q_apH a r (k_I a 10 0 r) (k_P a 5 r 9)) l i k = k_I a l i k := fun l i k hl => by rw [q_apH_I (by omega), if_neg (by omega), if_neg (by omega), if_neg (by omega), if_neg (by omega)]
  have F2 : ∀ i k, k_I (q_apH a r (k_I a 10 0 r) (k_P a 5 r 9)) 5 i k = if i = r ∧ k = 11 then k_I a 10 0 r else if i = r ∧ k = 7 then 101 else if i = r ∧ k = 10 then 1 else k_I a 5 i k := fun i k => by rw [q_apH_I (by decide), if_neg (by omega)]; simp
  have F3 : ∀ i k, k_I (q_apH a r (k_I a 10 0 r) (k_P a 5 r 9)) 10 i k = if i = 0 ∧ k = r then 45 else k_I a 10 i k := fun i k => by rw [q_apH_I (by decide)]; simp
  have F4 : ∀ i k, k_I (q_apH a r (k_I a 10 0 r) (k_P a 5 r 9)) 6 i k = if k_P a 5 r 9 = some i ∧ k = 2 then q_ctA (nI T) (k_I a 6 i 2) else k_I a 6 i k := fun i k => by rw [q_apH_6, h.Td.1]
  have F5 : ∀ l i k, l ≠ 7 ∧ l ≠ 17 → k_P (q_apH a r (k_I a 10 0 r) (k_P a 5 r 9)) l i k = k_P a l i k := fun l i k hl => q_apH_P hl
  have F6 : ∀ l, l ≠ 7 ∧ l ≠ 17 → k_Z (q_apH a r (k_I a 10 0 r) (k_P a 5 r 9)) l = k_Z a l := fun l hl => by rw [q_apH_Z hl.1, if_neg hl.2]
  have F6a : k_Z (q_apH a r (k_I a 10 0 r) (k_P a 5 r 9)) 17 = k_Z a 17 + 1 := by rw [q_apH_Z (by decide), if_pos rfl]
  have F7 : ∀ j, j < k_Z a 17 → k_P (q_apH a r (k_I a 10 0 r) (k_P a 5 r 9)) 7 j 0 = k_P a 7 j 0 ∧ ∀ k, k_I (q_apH a r (k_I a 10 0 r) (k_P a 5 r 9)) 7 j k = k_I a 7 j k := fun j hj => q_apH_7 (by omega)
  have F8 := q_apH_7n (σ := a) (r := r) (o := k_I a 10 0 r) (p := k_P a 5 r 9)
  rw [n7] at F8
  have hH := q_apH_H h.H rz1 (r := r) (o := k_I a 10 0 r) (p := k_P a 5 r 9)
  generalize q_apH a r (k_I a 10 0 r) (k_P a 5 r 9) = a' at *
  have M0 : ∀ l i k, l ≠ 38 ∧ l ≠ 40 → k_I (k_uI (k_uI m 40 0 r (k_I m 39 0 r)) 38 0 r 101) l i k = k_I m l i k := fun l i k hl => by rw [q_II, if_neg (by omega), q_II, if_neg (by omega)]
  have M38 : ∀ i, k_I (k_uI (k_uI m 40 0 r (k_I m 39 0 r)) 38 0 r 101) 38 0 i = if i = r then 101 else k_I m 38 0 i := fun i => by simp [q_II, q_IJ, q_ID, q_IP, q_In, q_Ia, q_JI, q_JJ, q_JD, q_JP, q_Jn, q_Ja, q_PI, q_PJ, q_PD, q_PP, q_Pn, q_Pa, q_NI, q_NJ, q_ND, q_NP, q_Nn, q_Na, q_ZI, q_ZJ, q_ZD, q_ZP, q_Zn, q_Za]
  have M40 : ∀ i, k_I (k_uI (k_uI m 40 0 r (k_I m 39 0 r)) 38 0 r 101) 40 0 i = if i = r then k_I m 39 0 r else k_I m 40 0 i := fun i => by simp [q_II, q_IJ, q_ID, q_IP, q_In, q_Ia, q_JI, q_JJ, q_JD, q_JP, q_Jn, q_Ja, q_PI, q_PJ, q_PD, q_PP, q_Pn, q_Pa, q_NI, q_NJ, q_ND, q_NP, q_Nn, q_Na, q_ZI, q_ZJ, q_ZD, q_ZP, q_Zn, q_Za]
  have hM' := (h.M.uI (l := 40) (i := 0) (k := r) (v := k_I m 39 0 r) (Or.inl (by decide))).uI (l := 38) (i := 0) (k := r) (v := 101) (Or.inl (by decide))
  have MJ : k_J (k_uI (k_uI m 40 0 r (k_I m 39 0 r)) 38 0 r 101) 1 0 32 = k_J m 1 0 32 := by rw [q_JI, q_JI]
  generalize k_uI (k_uI m 40 0 r (k_I m 39 0 r)) 38 0 r 101 = m' at *
  obtain ⟨b1, b2, b3, b4, b5, b6, b7, b8, b9, b10⟩ : k_I m 38 0 r = 100 ∧ k_I a 10 0 r = k_I m 39 0 r ∧ q_oc (k_I m 39 0 r) ∧ k_I a 11 0 r = k_I m 34 0 r + 1 ∧ (∃ n, n < 60 ∧ k_I m 34 0 r = nI n) ∧ k_I m 40 0 r = 45 ∧ k_I a 5 r 10 = 0 ∧ k_I a 5 r 12 = 0 ∧ q_bot (k_Z a 14) (k_P a 5 r 8) (k_I m 35 0 r) ∧ (k_I m 39 0 r ≠ 103 → k_P a 5 r 9 = none) := by
    rcases h.rs hr with q | q | q | q
    · rw [q.1] at hs; exact absurd hs (by decide)
    · exact q
    · rw [q.1] at hs; exact absurd hs (by decide)
    · exact absurd h40 (q_n45 q.2.2.2.2.2.1)
  -- how ends change
  have en : ∀ j, j < k_Z a 16 → q_eN a' j = (if k_P a 5 r 9 = some j then min (q_eN a j) T else q_eN a j) ∧ k_I a' 6 j 2 = nI (q_eN a' j) ∧ k_I a' 6 j 1 = k_I a 6 j 1 := fun j hj => by
    obtain ⟨s, s1, s2, s3, s4, s5⟩ := q_eNb h.Sn hj
    have e6 := F4 j 2
    have e61 : k_I a' 6 j 1 = k_I a 6 j 1 := by rw [F4, if_neg (by omega)]
    by_cases q : k_P a 5 r 9 = some j
    · rw [if_pos ⟨q, rfl⟩, s5] at e6
      have e7 : q_ctA (nI T) (nI (q_eN a j)) = nI (min (q_eN a j) T) := by
        unfold q_ctA
        by_cases q2 : T < q_eN a j
        · rw [if_pos (nI_lt q2 (by omega)), Nat.min_eq_right (by omega)]
        · rw [if_neg (nI_nlt (by omega) (by omega)), Nat.min_eq_left (by omega)]
      rw [e7] at e6
      have e8 : q_eN a' j = min (q_eN a j) T := by unfold q_eN; rw [e6, q_c (by unfold q_eN at s4; omega)]; rfl
      exact ⟨by rw [if_pos q]; exact e8, by rw [e8]; exact e6, e61⟩
    · rw [if_neg (fun z => q z.1), s5] at e6
      have e8 : q_eN a' j = q_eN a j := by
        show (k_I a' 6 j 2).toNatClampNeg = _
        rw [e6, q_c (by omega)]
      exact ⟨by rw [if_neg q]; exact e8, by rw [e8]; exact e6, e61⟩
  refine ⟨hH, ?_, q_sc h.Td (F1 0 0 8 (by decide)) (M0 1 0 14 (by decide)) (F1 0 0 9 (by decide)) (M0 1 0 13 (by decide)), ?_, ?_, ?_, ?_, ?_, ?_, ?_, ?_, ?_, ?_, ?_, ?_, ?_⟩
  · rw [F6 12 (by decide), F6 13 (by decide), F6 14 (by decide), F6 15 (by decide)]
    exact hM'
  · have := h.Ru
    unfold q_Ru at this ⊢
    simp only [F6 12 (by decide), F1 2 _ _ (by decide), M0 20 _ _ (by decide), M0 28 _ _ (by decide), M0 21 _ _ (by decide), M0 22 _ _ (by decide), M0 23 _ _ (by decide), M0 24 _ _ (by decide)]
    exact this
  · have := h.Us
    unfold q_Us at this ⊢
    simp only [F6 13 (by decide), F1 3 _ _ (by decide), M0 25 _ _ (by decide)]
    exact this
  · have := h.Bo
    unfold q_Bo at this ⊢
    simp only [F6 14 (by decide), F1 4 _ _ (by decide), M0 26 _ _ (by decide), M0 27 _ _ (by decide)]
    exact this
  · have := h.Vo
    unfold q_Vo at this ⊢
    simp only [F6 13 (by decide), F6 15 (by decide), F1 9 _ _ (by decide), M0 42 _ _ (by decide)]
    exact this
  · intro i hi
    rw [F6 15 (by decide)] at hi
    by_cases e : i = r
    · subst e
      have R := h.rp hi
      refine ⟨?_, Or.inr (Or.inr (Or.inl ⟨?_, ?_, ?_, ?_, ?_, ?_⟩))⟩
      · unfold q_Rp at R ⊢
        simp only [F6 13 (by decide), F2, F5 5 _ _ (by decide), M0 29 _ _ (by decide), M0 30 _ _ (by decide), M0 31 _ _ (by decide), M0 32 _ _ (by decide), M0 33 _ _ (by decide), M38, M40]
        simp at R ⊢
        exact ⟨R.1, R.2.1, R.2.2.1, R.2.2.2.1, R.2.2.2.2.1, R.2.2.2.2.2.1, R.2.2.2.2.2.2.1, R.2.2.2.2.2.2.2.1, R.2.2.2.2.2.2.2.2.1, b2⟩
      · rw [M38, if_pos rfl]
      · rw [F3, if_pos ⟨rfl, rfl⟩]
      · rw [M40, if_pos rfl]; exact b3
      · rw [F2, if_neg (by omega), if_neg (by omega), if_pos ⟨rfl, rfl⟩]
      · rw [F2, if_neg (by omega), if_neg (by omega), if_neg (by omega)]; exact b8
      · rw [F5 5 _ _ (by decide), M0 35 _ _ (by decide), F6 14 (by decide)]; exact b9
    · have l5 : ∀ k, k_I a' 5 i k = k_I a 5 i k := fun k => by rw [F2, if_neg (fun q => e q.1), if_neg (fun q => e q.1), if_neg (fun q => e q.1)]
      have lm : ∀ l, k_I m' l 0 i = k_I m l 0 i := fun l => by
        by_cases e38 : l = 38
        · rw [e38, M38, if_neg e]
        · by_cases e40 : l = 40
          · rw [e40, M40, if_neg e]
          · exact M0 l 0 i ⟨e38, e40⟩
      exact ⟨(h.rp hi).ag (Nat.le_refl _) (Nat.le_of_eq (F6 13 (by decide)).symm) l5 (fun k => F5 5 i k (by decide)) (fun l _ => lm l), (h.rs hi).ag (Nat.le_of_eq (F6 14 (by decide)).symm) l5 (fun k => F5 5 i k (by decide)) (by rw [F3, if_neg (fun q => e q.2)]) (F1 11 0 i (by decide)) (fun l _ => lm l)⟩
  · intro i h1 h2
    rw [F6 15 (by decide)] at h1
    rw [F3, if_neg (by omega)]
    exact h.Ro i h1 h2
  · intro j hj
    rw [F6 16 (by decide)] at hj
    obtain ⟨s, s1, s2, s3, s4, s5⟩ := q_eNb h.Sn hj
    obtain ⟨e1, e2, e3⟩ := en j hj
    obtain ⟨u, hu⟩ := h.su j hj
    refine ⟨u, s, q_eN a' j, by rw [F5 6 _ _ (by decide)]; exact hu, by rw [e3]; exact s1, e2, ?_, s3, ?_⟩
    · rw [e1]; split <;> omega
    · rw [e1]; split <;> omega
  · intro i hi g1 g2
    rw [F6 15 (by decide)] at hi
    by_cases e : i = r
    · rw [e, M38, if_pos rfl] at g1
      exact absurd g1 (by decide)
    · rw [M38, if_neg e] at g1
      rw [M0 39 _ _ (by decide)] at g2
      obtain ⟨j, hj, q1, q2, q3, q4⟩ := h.Sr i hi g1 g2
      obtain ⟨s, s1, s2, s3, s4, s5⟩ := q_eNb h.Sn hj
      obtain ⟨e1, e2, e3⟩ := en j hj
      have ee : q_eN a' j = q_eN a j := by
        rw [e1]
        by_cases q : k_P a 5 r 9 = some j
        · rw [if_pos q]
          by_cases q5 : T < q_eN a j
          · exfalso
            have gr : k_I m 39 0 r = 103 := Classical.byContradiction fun z => by
              rw [b10 z] at q
              cases q
            have c1 : q_cu a i = j := by unfold q_cu; rw [q1]; rfl
            have c2 : q_cu a r = j := by unfold q_cu; rw [q]; rfl
            exact e (h.inj hi hr ⟨g1, g2⟩ ⟨hs, gr⟩ (c1.trans c2.symm) (by rw [c2]; exact q5))
          · exact Nat.min_eq_left (by omega)
        · rw [if_neg q]
      refine ⟨j, by rw [F6 16 (by decide)]; exact hj, by rw [F5 5 _ _ (by decide)]; exact q1, by rw [F5 6 _ _ (by decide), F5 5 _ _ (by decide)]; exact q2, by rw [e3, M0 36 _ _ (by decide)]; exact q3, ?_⟩
      rw [e2, ee, M0 37 _ _ (by decide), ← q4, s5]
  · intro op hc f hf
    rw [F6 16 (by decide)] at hf ⊢
    rw [F6 15 (by decide)]
    have old := h.Sd op hc f (fun j hj hd => hf j hj (by
      obtain ⟨s, s1, s2, s3, s4, s5⟩ := q_eNb h.Sn hj
      obtain ⟨e1, e2, e3⟩ := en j hj
      rw [s5, nI_leI (by omega) (by omega)] at hd
      rw [e2]
      refine nI_le ?_ (by omega)
      rw [e1]
      split <;> omega))
    rw [old]
    refine q_fd_c (fun i hi => ?_)
    by_cases e : i = r
    · subst e
      have n1 : ¬ (k_I m' 38 0 i = 100 ∧ k_I m' 39 0 i = 103) := fun q => by
        rw [M38, if_pos rfl] at q
        exact absurd q.1 (by decide)
      rw [if_neg n1]
      by_cases g : k_I m 38 0 i = 100 ∧ k_I m 39 0 i = 103
      · rw [if_pos g]
        obtain ⟨j, hj, q1, -⟩ := h.Sr i hi g.1 g.2
        obtain ⟨e1, e2, e3⟩ := en j hj
        rw [q1]
        refine hf j hj ?_
        rw [e2]
        refine nI_le ?_ (by omega)
        rw [e1, if_pos q1]
        omega
      · rw [if_neg g]
    · rw [M38, if_neg e, M0 39 _ _ (by decide), F5 5 _ _ (by decide)]
  · unfold q_Sj
    rw [MJ, h.Sj, F6 16 (by decide)]
    refine congrArg lN (q_fd_c (fun j hj => ?_))
    obtain ⟨s, s1, s2, s3, s4, s5⟩ := q_eNb h.Sn hj
    obtain ⟨e1, e2, e3⟩ := en j hj
    show min (q_eN a j) T - (k_I a 6 j 1).toNatClampNeg = min (q_eN a' j) T - (k_I a' 6 j 1).toNatClampNeg
    rw [e3, e1]
    split <;> omega
  · obtain ⟨t1, t2⟩ := h.Ct
    unfold q_Ct
    rw [M0 1 _ _ (by decide), M0 1 _ _ (by decide), t1, t2, F6 15 (by decide)]
    refine ⟨q_fd_c (fun i hi => ?_), q_fd_c (fun i hi => ?_)⟩
    · by_cases e : i = r
      · subst e
        rw [M38, if_pos rfl, hs, h40]
        rfl
      · rw [M38, if_neg e, M40, if_neg e]
    · unfold q_mrv
      by_cases e : i = r
      · subst e
        rw [M38, if_pos rfl, hs, h40]
        rfl
      · rw [M38, if_neg e, M40, if_neg e, M0 39 _ _ (by decide)]
  · obtain ⟨⟨D, d1, d2⟩, d3, d4, d5⟩ := h.De
    refine ⟨⟨D, by rw [F6a]; omega, by rw [M0 1 _ _ (by decide)]; exact d2⟩, by rw [F1 8 _ _ (by decide), M0 1 _ _ (by decide)]; exact d3, by rw [F6 16 (by decide), F6a]; omega, ?_⟩
    rw [F6a, d5, F6 15 (by decide)]
    refine Eq.symm (q_fd_i q_cm_n (c := 1) (r := r) ?_ hr (fun i hi hne => ?_))
    · show q_ec (k_I m' 38 0 r) (k_I m' 40 0 r) = q_ec (k_I m 38 0 r) (k_I m 40 0 r) + 1
      rw [M38, if_pos rfl, hs, h40]
      rfl
    · show q_ec (k_I m' 38 0 i) (k_I m' 40 0 i) = q_ec (k_I m 38 0 i) (k_I m 40 0 i)
      rw [M38, if_neg hne, M40, if_neg hne]
  · obtain ⟨hE, hmm, hk⟩ := h.Mi
    have l5 : ∀ i, k_I a' 5 i 3 = k_I a 5 i 3 ∧ k_I a' 5 i 5 = k_I a 5 i 5 := fun i => ⟨by rw [F2, if_neg (by omega), if_neg (by omega), if_neg (by omega)], by rw [F2, if_neg (by omega), if_neg (by omega), if_neg (by omega)]⟩
    obtain ⟨C, Cm⟩ := q_hs_c (a := a) (a' := a') (n := k_Z a 17) hz5 hE F7 (fun i hi => by
      refine ⟨?_, (l5 i).1⟩
      have ehr : q_hr a' i = q_hr a i := by
        unfold q_hr q_ho
        simp only [F1 2 _ _ (by decide), (l5 i).1, (l5 i).2, F6 12 (by decide)]
      rw [ehr]
      exact congrArg (q_cl (q_hr a i).1) (funext fun j => F1 2 j 1 (by decide)))
    have st := q_hs_s a' (fun _ => 45) (fun _ => 0) (k_Z a 17)
    have n1 : ¬ k_I a' 7 (k_Z a 17) 1 = 0 := by rw [F8.2]; decide
    rw [if_neg n1, F8.1] at st
    have stp : q_hs0 a' (k_Z a 17 + 1) = (q_up (q_hs0 a' (k_Z a 17)).1 r 45, (q_hs0 a' (k_Z a 17)).2.1, (q_hs0 a' (k_Z a 17)).2.2) := st
    refine ⟨?_, ?_, fun k hk2 => ?_⟩
    · intro j hj
      rw [F6a] at hj
      rw [F6 15 (by decide)]
      by_cases e : j < k_Z a 17
      · rw [(F7 j e).1]
        exact hE j e
      · have : j = k_Z a 17 := by omega
        subst this
        exact ⟨r, hr, F8.1⟩
    · rw [F6a, stp, F1 8 _ _ (by decide)]
      show (q_hs0 a' (k_Z a 17)).2.2 = _
      rw [← Cm, hmm]
    · rw [F6a, stp, F3, F1 11 _ _ (by decide)]
      show q_up (q_hs0 a' (k_Z a 17)).1 r 45 k = _ ∧ (_ → (q_hs0 a' (k_Z a 17)).2.1 k = _)
      unfold q_up
      by_cases e : k = r
      · rw [if_pos e, if_pos ⟨rfl, e⟩]
        exact ⟨rfl, fun q => absurd rfl q⟩
      · rw [if_neg e, if_neg (fun q => e q.2), ← (C k hk2).1]
        refine ⟨(hk k hk2).1, fun q => ?_⟩
        rw [← (C k hk2).2.2.1 (by rw [(hk k hk2).1]; exact q)]
        exact (hk k hk2).2 q
theorem g_appeal {T : Nat} {σ : k_S} (hI : q_I T σ σ) (x : Int32) : q_Ok (f_L_appeal σ 0 x 0) (fun τ => f_X8_appeal τ 0 x) := by
  have hz5 := hI.H.z15
  rcases q_ix x (n := k_Z σ 15) (by omega) with ⟨r, hr, rfl⟩ | hx
  rotate_left
  · refine q_exc hI (k := 1) (b := 0) (by decide) ?_ ?_
    · unfold f_L_appeal f_X7_appeal
      rw [q_reportAtb hI.H hx]
      simp [k_bc, k_bt]
    · show f_X8_appeal σ 0 x = _
      unfold f_X8_appeal
      rw [q_isOpenb hI hx, Option.bind_some]
      exact if_neg q_10
  have g20 : 0 ≤ nI r ∧ (nI r).toNatClampNeg < 20 := of_eq_true (q_g (by omega) (by omega))
  have g20' : 0 ≤ nI r ∧ r < 20 := q_g1 (by omega) (by omega)
  have st := hI.st hr
  by_cases hs : k_I σ 38 0 r = 100
  rotate_left
  · refine q_exc hI (k := 2) (b := 0) (by decide) ?_ ?_
    · unfold f_L_appeal f_X7_appeal
      rw [q_reportAt hI.H hr]
      simp only [k_bc, k_bt]
      rw [st.1, if_neg hs]
      simp
    · show f_X8_appeal σ 0 (nI r) = _
      unfold f_X8_appeal
      rw [q_isOpen hI hr, if_neg hs, Option.bind_some]
      exact if_neg q_10
  by_cases h40 : k_I σ 40 0 r = 45
  rotate_left
  · have h10 : k_I σ 5 r 10 = 1 := by
      rcases hI.rs hr with q | q | q | q
      · exact absurd q.2.2.2.1 h40
      · exact absurd q.2.2.2.2.2.1 h40
      · exact q.2.2.2.1
      · exact q.2.2.2.2.2.2.1
    refine q_exc hI (k := 3) (b := 0) (by decide) ?_ ?_
    · unfold f_L_appeal f_X7_appeal
      rw [q_reportAt hI.H hr]
      simp only [k_bc, k_bt]
      rw [st.1, if_pos hs, h10, if_neg q_10]
      simp
    · show f_X8_appeal σ 0 (nI r) = _
      have h' := hI.th (v := 0)
      unfold f_X8_appeal
      rw [q_isOpen hI hr, if_pos hs, Option.bind_some, if_pos rfl]
      dsimp only
      rw [h'.M.q.2.2.2.2.2.2.2.2.2.2.2.1, Option.bind_some, if_pos g20, q_c (n := r) (by omega), q_thI (by decide), if_neg h40, q_fails]
      rfl
  have h10 : k_I σ 5 r 10 = 0 := by
    rcases hI.rs hr with q | q | q | q
    · exact q.2.2.2.2.1
    · exact q.2.2.2.2.2.2.1
    · exact absurd h40 (q_n45 q.2.2.1)
    · exact absurd h40 (q_n45 q.2.2.2.2.2.1)
  obtain ⟨rz1, rz2⟩ := hI.roomZ hr (Or.inr h40)
  have hoC := hI.ch r (by omega)
  have pair : ∀ τ, q_I T σ τ → q_I T (q_apH σ r (k_I σ 10 0 r) (k_P σ 5 r 9)) (k_uI (k_uI (k_uI τ 1 0 0 0) 40 0 r (k_I (k_uI τ 1 0 0 0) 39 0 r)) 38 0 r 101) := fun τ hm => by
    have h' := hm.th (v := 0)
    have e38 : k_I (k_uI τ 1 0 0 0) 38 0 r = 100 := by rw [← (h'.st hr).1, st.1]; exact hs
    have e40 : k_I (k_uI τ 1 0 0 0) 40 0 r = 45 := by rw [← (h'.rp hr).2.2.2.2.2.2.2.2.2.2, (hI.rp hr).2.2.2.2.2.2.2.2.2.2]; exact h40
    exact q_appeal_I h' hr e38 e40
  refine q_mut (H := q_apH σ r (k_I σ 10 0 r) (k_P σ 5 r 9)) (v := q_sI (fun i => if k_I (q_apH σ r (k_I σ 10 0 r) (k_P σ 5 r 9)) 5 i 7 = 101 then 1 else 0) (k_Z σ 15)) (Mu := fun τ => k_uI (k_uI (k_uI τ 1 0 0 0) 40 0 r (k_I (k_uI τ 1 0 0 0) 39 0 r)) 38 0 r 101) (T' := T) hI ?_ q_apH_sm (fun τ hm => ?_) (fun τ => ?_) (fun τ => rfl) (fun τ => ((q_sh.rf.uI (by omega)).uI (by omega)).uI (by omega)) pair
  · have z15 : k_Z (q_apH σ r (k_I σ 10 0 r) (k_P σ 5 r 9)) 15 = k_Z σ 15 := by rw [q_apH_Z (by decide), if_neg (by decide)]
    have cnt := q_inState (q_apH_H hI.H rz1 (r := r) (o := k_I σ 10 0 r) (p := k_P σ 5 r 9)) 101
    rw [z15] at cnt
    unfold f_L_appeal f_X7_appeal
    rw [q_reportAt hI.H hr]
    simp only [k_bc, k_bt]
    have hb0 : q_H (k_uI (k_uI σ 5 r 10 1) 5 r 7 101) := q_H_uI (q_H_uI hI.H)
    have hb1 : q_H (k_uI (k_uI (k_uI σ 5 r 10 1) 5 r 7 101) 5 r 11 (k_I σ 10 0 r)) := q_H_uI hb0
    have ho1 : k_I (k_uI (k_uI σ 5 r 10 1) 5 r 7 101) 10 0 r = k_I σ 10 0 r := by rw [q_II, if_neg (by omega), q_II, if_neg (by omega)]
    have hL : k_uI (k_uI (k_uI (k_uI σ 5 r 10 1) 5 r 7 101) 5 r 11 (k_I σ 10 0 r)) 10 0 r 45 = q_lfA σ r (k_I σ 10 0 r) := rfl
    rw [st.1, if_pos hs, if_pos h10, hI.H.p6, Option.bind_some, q_outcomeOf hb0 (by omega) (by omega) (by rw [ho1]; exact hoC), ho1, Option.bind_some, if_pos hoC, q_lift hb1 (by omega) (by omega), Option.bind_some, hL]
    have hE := q_lfA_H hI.H (r := r) (o := k_I σ 10 0 r)
    have hEZ : k_Z (q_lfA σ r (k_I σ 10 0 r)) 17 = k_Z σ 17 := rfl
    have hEP : k_P (q_lfA σ r (k_I σ 10 0 r)) 5 r 9 = k_P σ 5 r 9 := rfl
    have hE8 : k_I (q_lfA σ r (k_I σ 10 0 r)) 0 0 8 = k_I σ 0 0 8 := by rw [q_lfA_I, if_neg (by omega), if_neg (by omega), if_neg (by omega), if_neg (by omega)]
    have hE6 : ∀ j, k_I (q_lfA σ r (k_I σ 10 0 r)) 6 j 2 = k_I σ 6 j 2 := fun j => by rw [q_lfA_I, if_neg (by omega), if_neg (by omega), if_neg (by omega), if_neg (by omega)]
    unfold q_apH at cnt ⊢
    generalize q_lfA σ r (k_I σ 10 0 r) = ε at *
    dsimp only
    rw [if_pos hE.p5]
    unfold f_X1_init
    rw [if_pos (Or.inr rfl), Option.bind_some]
    dsimp only
    rw [if_pos (by rw [q_ZI, q_ZI, q_ZI, q_ZP, q_Zn, if_neg (by omega)]; omega)]
    have e2 : k_ladd (k_uI (k_uI (k_uI (k_uP (k_new ε 7) 7 (k_N ε 7) 0 (some r)) 7 (k_N ε 7) 1 1) 7 (k_N ε 7) 2 0) 7 (k_N ε 7) 3 0) 17 (k_N ε 7) = q_min ε r 1 0 0 := rfl
    have e3 : k_P (k_uI (k_uI (k_uI (k_uP (k_new ε 7) 7 (k_N ε 7) 0 (some r)) 7 (k_N ε 7) 1 1) 7 (k_N ε 7) 2 0) 7 (k_N ε 7) 3 0) 5 r 9 = k_P σ 5 r 9 := by
      rw [q_PI, q_PI, q_PI, q_PP, if_neg (by omega), q_Pn, if_neg (by omega)]
      exact hEP
    have e4 : k_I (k_uI (k_uI (k_uI (k_uP (k_new ε 7) 7 (k_N ε 7) 0 (some r)) 7 (k_N ε 7) 1 1) 7 (k_N ε 7) 2 0) 7 (k_N ε 7) 3 0) 0 0 8 = k_I σ 0 0 8 := by
      rw [q_II, if_neg (by omega), q_II, if_neg (by omega), q_II, if_neg (by omega), q_IP, q_In, if_neg (by omega)]
      exact hE8
    rw [e2, e3, e4]
    cases hp : k_P σ 5 r 9 with
    | none =>
      rw [hp] at cnt
      have cnt2 : f_X7_reportsInState (q_min ε r 1 0 0) 0 101 = some (q_sI (fun i => if k_I (q_min ε r 1 0 0) 5 i 7 = 101 then 1 else 0) (k_Z σ 15)) := cnt
      rw [k_on_n rfl, cnt2, Option.bind_some]
    | some j =>
      rw [hp] at cnt
      have e6 : k_I (q_min ε r 1 0 0) 6 j 2 = k_I σ 6 j 2 := by rw [q_min_I (by decide)]; exact hE6 j
      have ec : f_X4_cutAt (q_min ε r 1 0 0) j (k_I σ 0 0 8) = some ((), k_uI (q_min ε r 1 0 0) 6 j 2 (q_ctA (k_I σ 0 0 8) (k_I σ 6 j 2))) := by
        unfold f_X4_cutAt q_ctA
        rw [e6]
      have cnt2 : f_X7_reportsInState (k_uI (q_min ε r 1 0 0) 6 j 2 (q_ctA (k_I σ 0 0 8) (k_I σ 6 j 2))) 0 101 = some (q_sI (fun i => if k_I (k_uI (q_min ε r 1 0 0) 6 j 2 (q_ctA (k_I σ 0 0 8) (k_I σ 6 j 2))) 5 i 7 = 101 then 1 else 0) (k_Z σ 15)) := cnt
      rw [k_on_s rfl, ec, Option.bind_some]
      dsimp only
      rw [cnt2, Option.bind_some]
  · show f_X8_appeal τ 0 (nI r) = _
    have h' := hm.th (v := 0)
    have hp := pair τ hm
    have e38 : k_I τ 38 0 r = 100 := by rw [← (hm.st hr).1, st.1]; exact hs
    have e40 : k_I (k_uI τ 1 0 0 0) 40 0 r = 45 := by rw [← (h'.rp hr).2.2.2.2.2.2.2.2.2.2, (hI.rp hr).2.2.2.2.2.2.2.2.2.2]; exact h40
    have e38' : k_I (k_uI τ 1 0 0 0) 38 0 r = 100 := by rw [q_thI (by decide)]; exact e38
    have z15 : k_Z (q_apH σ r (k_I σ 10 0 r) (k_P σ 5 r 9)) 15 = k_Z σ 15 := by rw [q_apH_Z (by decide), if_neg (by decide)]
    have cnt := q_m_appeal hp.M (nI r)
    rw [z15] at cnt
    unfold f_X8_appeal
    rw [q_isOpen hm hr, if_pos e38, Option.bind_some, if_pos rfl]
    dsimp only
    rw [h'.M.q.2.2.2.2.2.2.2.2.2.2.2.1, Option.bind_some, if_pos g20, q_c (n := r) (by omega), e40, if_pos rfl, h'.M.q.2.2.2.2.2.2.2.2.2.2.1, Option.bind_some, if_pos g20', if_pos g20', if_pos (q_oc_C (h'.out hr e38').2), h'.M.q.2.2.2.2.2.2.2.2.2.1, Option.bind_some, if_pos g20', cnt, Option.bind_some]
    refine congrArg (fun z => some (z, k_uI (k_uI (k_uI τ 1 0 0 0) 40 0 r (k_I (k_uI τ 1 0 0 0) 39 0 r)) 38 0 r 101)) (q_fd_c (fun i hi => ?_))
    show (if _ = (101 : Int32) then (1 : Int32) else 0) = if _ = (101 : Int32) then 1 else 0
    rw [(hp.st (by rw [z15]; exact hi)).1]
  · rw [q_thr0 _ (by omega), q_thr0 _ (by omega), q_thr1]
