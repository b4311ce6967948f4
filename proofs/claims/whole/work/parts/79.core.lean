/-! ===== THE PURE PART: what holds after a decision ===== -/
/-- the hall a' is a after a decision on r with outcome o, the bot p told -/
def q_dA (T : Nat) (a a' : k_S) (r u : Nat) (p : Option Nat) (o sF sA d : Int32) : Prop :=
  (∀ l i k, l ≠ 5 ∧ l ≠ 6 ∧ l ≠ 7 ∧ l ≠ 8 ∧ l ≠ 10 ∧ l ≠ 11 → k_I a' l i k = k_I a l i k) ∧
  (∀ i k, k_I a' 5 i k = if i = r ∧ k = 7 then 100 else k_I a 5 i k) ∧
  (∀ i k, k_I a' 10 i k = if i = 0 ∧ k = r then o else k_I a 10 i k) ∧
  (∀ i k, k_I a' 11 i k = if i = 0 ∧ k = r then k_I a 8 0 2 + 1 else k_I a 11 i k) ∧
  k_I a' 8 0 2 = k_I a 8 0 2 + 1 ∧
  (∀ i k, k_P a' 5 i k = if o = 103 ∧ i = r ∧ k = 9 then some (k_Z a 16) else if i = r ∧ k = 8 then p else k_P a 5 i k) ∧
  (∀ l, l ≠ 6 ∧ l ≠ 7 ∧ l ≠ 16 ∧ l ≠ 17 → k_Z a' l = k_Z a l) ∧ k_Z a' 17 = k_Z a 17 + 1 ∧ k_Z a' 16 = (if o = 103 then k_Z a 16 + 1 else k_Z a 16) ∧
  (∀ j k, j < k_Z a 16 → k_I a' 6 j k = k_I a 6 j k ∧ k_P a' 6 j k = k_P a 6 j k) ∧
  (o = 103 → k_P a' 6 (k_Z a 16) 0 = some u ∧ k_I a' 6 (k_Z a 16) 1 = nI T ∧ k_I a' 6 (k_Z a 16) 2 = nI T + d) ∧
  (∀ j, j < k_Z a 17 → k_P a' 7 j 0 = k_P a 7 j 0 ∧ ∀ k, k_I a' 7 j k = k_I a 7 j k) ∧
  (k_P a' 7 (k_Z a 17) 0 = some r ∧ k_I a' 7 (k_Z a 17) 1 = 0 ∧ k_I a' 7 (k_Z a 17) 2 = sF ∧ k_I a' 7 (k_Z a 17) 3 = sA) ∧
  (∀ i, q_hr a' i = q_hr a i) ∧ q_H a'
theorem q_dA_of {T : Nat} {a m : k_S} (h : q_I T a m) (hZ : k_Z a 17 < 60) (hS : k_Z a 16 < 60) {r u : Nat} {p : Option Nat} {o sF sA d : Int32} : q_dA T a (q_stl (k_uP a 5 r 8 p) r u o sF sA d) r u p o sF sA d := by
  have n6 := h.H.n6
  have n7 := h.H.n7
  have hH : q_H (k_uP a 5 r 8 p) := by
    obtain ⟨h1, h2, h3, h4, h5, h6, h7, h8, h9⟩ := h.H
    refine ⟨?_, ?_, h3, h4, h5, h6, h7, h8, fun l j c1 c2 c3 => ?_⟩
    · simpa [q_II, q_IJ, q_ID, q_IP, q_In, q_Ia, q_JI, q_JJ, q_JD, q_JP, q_Jn, q_Ja, q_PI, q_PJ, q_PD, q_PP, q_Pn, q_Pa, q_NI, q_NJ, q_ND, q_NP, q_Nn, q_Na, q_ZI, q_ZJ, q_ZD, q_ZP, q_Zn, q_Za] using h1
    · simpa [q_II, q_IJ, q_ID, q_IP, q_In, q_Ia, q_JI, q_JJ, q_JD, q_JP, q_Jn, q_Ja, q_PI, q_PJ, q_PD, q_PP, q_Pn, q_Pa, q_NI, q_NJ, q_ND, q_NP, q_Nn, q_Na, q_ZI, q_ZJ, q_ZD, q_ZP, q_Zn, q_Za] using h2
    · rw [q_PP, if_neg (by omega)]
      exact h9 l j c1 c2 c3
  refine ⟨fun l i k hl => ?_, fun i k => ?_, fun i k => ?_, fun i k => ?_, ?_, fun i k => ?_, fun l hl => ?_, ?_, ?_, fun j k hj => ?_, fun e => ?_, fun j hj => ?_, ?_, fun i => ?_, q_stl_H hH hZ hS⟩
  · rw [q_stl_Io (by omega), q_IP]
  · rw [q_stl_I (by decide)]
    by_cases e : i = r ∧ k = 7
    · rw [if_pos ⟨rfl, e⟩, if_pos e]
    · rw [if_neg (fun q => e q.2), if_neg (by omega), if_neg (by omega), if_neg (by omega), if_neg e, q_IP]
  · rw [q_stl_I (by decide), if_neg (by omega), if_neg (by omega)]
    by_cases e : i = 0 ∧ k = r
    · rw [if_pos ⟨rfl, e⟩, if_pos e]
    · rw [if_neg (fun q => e q.2), if_neg (by omega), if_neg e, q_IP]
  · rw [q_stl_I (by decide), if_neg (by omega)]
    by_cases e : i = 0 ∧ k = r
    · rw [if_pos ⟨rfl, e⟩, if_pos e, q_IP]
    · rw [if_neg (fun q => e q.2), if_neg (by omega), if_neg (by omega), if_neg e, q_IP]
  · rw [q_stl_I (by decide), if_neg (by omega), if_neg (by omega), if_neg (by omega), if_pos ⟨rfl, rfl, rfl⟩, q_IP]
  · rw [q_stl_P (by decide), q_PP, q_NP, n6]
    by_cases e : o = 103 ∧ i = r ∧ k = 9
    · rw [if_pos ⟨e.1, rfl, e.2⟩, if_pos e]
    · rw [if_neg (fun q => e ⟨q.1, q.2.2⟩), if_neg e]
      by_cases e2 : i = r ∧ k = 8
      · rw [if_pos ⟨rfl, e2⟩, if_pos e2]
      · rw [if_neg (fun q => e2 q.2), if_neg e2]
  · rw [q_stl_Z (by omega), if_neg (by omega), if_neg (by omega), q_ZP]
  · rw [q_stl_Z (by decide), if_pos rfl, q_ZP]
  · rw [q_stl_Z (by decide), if_neg (by decide)]
    by_cases e : o = 103
    · rw [if_pos ⟨e, rfl⟩, if_pos e, q_ZP]
    · rw [if_neg (fun q => e q.1), if_neg e, q_ZP]
  · obtain ⟨g1, g2⟩ := q_stl_6 (σ := k_uP a 5 r 8 p) (r := r) (u := u) (o := o) (sF := sF) (sA := sA) (d := d) (i := j) (k := k) (by rw [q_NP]; omega)
    rw [g1, g2, q_IP, q_PP, if_neg (by omega)]
    exact ⟨rfl, rfl⟩
  · have := q_stl_6n (σ := k_uP a 5 r 8 p) (r := r) (u := u) (sF := sF) (sA := sA) (d := d) e
    rw [q_NP, n6, q_IP, h.Td.1] at this
    exact this
  · obtain ⟨g1, g2⟩ := q_stl_7 (σ := k_uP a 5 r 8 p) (r := r) (u := u) (o := o) (sF := sF) (sA := sA) (d := d) (j := j) (by rw [q_NP]; omega)
    rw [g1, q_PP, if_neg (by omega)]
    exact ⟨rfl, fun k => by rw [g2, q_IP]⟩
  · have := q_stl_7n (σ := k_uP a 5 r 8 p) (r := r) (u := u) (o := o) (sF := sF) (sA := sA) (d := d)
    rw [q_NP, n7] at this
    exact this
  · rw [q_stl_hr]
    unfold q_hr q_ho
    simp only [q_IP, q_ZP]
/-- after a decision: all but r's own row and the counts of appeals -/
theorem q_dec {T : Nat} {a m a' m' : k_S} (h : q_I T a m) {r u : Nat} (hr : r < k_Z a 15) (hs : k_I m 38 0 r ≠ 100) (hu : k_P a 5 r 2 = some u) {p : Option Nat} {o sF sA d b : Int32} (ho : o = q_hf a 0 r sF sA) (hd : o = 103 → ∃ n, 1 ≤ n ∧ n ≤ 60 ∧ d = nI n) (A : q_dA T a a' r u p o sF sA d) (hm' : m' = q_mdl m r o b d) :
    q_M (k_Z a' 12) (k_Z a' 13) (k_Z a' 14) (k_Z a' 15) m' ∧ q_Td T a' m' ∧ q_Ru a' m' ∧ q_Us a' m' ∧ q_Bo a' m' ∧ q_Vo a' m' ∧ (∀ i, i < k_Z a 15 → q_Rp T a' m' i) ∧ (∀ i, i < k_Z a 15 → i ≠ r → q_Rs a' m' i) ∧ q_Ro a' ∧ q_Sn T a' ∧ q_Sr a' m' ∧ q_Sd T a' m' ∧ q_Sj T a' m' ∧ q_De a' m' ∧ q_Mi a' := by
  obtain ⟨F1, F2, F3, F4, F5, F6, F8, F8a, F8b, F9, F10, F11, F12, F13, hH⟩ := A
  have hz5 := h.H.z15
  have hz2 := h.H.z12
  have hT := h.Td.2.2.1
  subst hm'
  have Mo : ∀ l, l ≠ 34 ∧ l ≠ 35 ∧ l ≠ 36 ∧ l ≠ 37 ∧ l ≠ 38 ∧ l ≠ 39 ∧ l ≠ 1 → ∀ i k, k_I (q_mdl m r o b d) l i k = k_I m l i k := fun l hl i k => q_mdl_Io (by omega)
  obtain ⟨m38, m39, m35, m34, m29, m36⟩ := q_mdl_r (m := m) (r := r) (o := o) (b := b) (d := d)
  refine ⟨?_, ?_, ?_, ?_, ?_, ?_, fun i hi => ?_, fun i hi hne => ?_, ?_, ?_, ?_, ?_, ?_, ?_, ?_⟩
  · rw [F8 12 (by decide), F8 13 (by decide), F8 14 (by decide), F8 15 (by decide)]
    exact q_mdl_M h.M
  · exact q_sc h.Td (F1 0 0 8 (by decide)) (q_mdl_Io (by decide)) (F1 0 0 9 (by decide)) (q_mdl_Io (by decide))
  · have := h.Ru
    unfold q_Ru at this ⊢
    simp only [F8 12 (by decide), F1 2 _ _ (by decide), Mo 20 (by decide), Mo 28 (by decide), Mo 21 (by decide), Mo 22 (by decide), Mo 23 (by decide), Mo 24 (by decide)]
    exact this
  · have := h.Us
    unfold q_Us at this ⊢
    simp only [F8 13 (by decide), F1 3 _ _ (by decide), Mo 25 (by decide)]
    exact this
  · have := h.Bo
    unfold q_Bo at this ⊢
    simp only [F8 14 (by decide), F1 4 _ _ (by decide), Mo 26 (by decide), Mo 27 (by decide)]
    exact this
  · have := h.Vo
    unfold q_Vo at this ⊢
    simp only [F8 13 (by decide), F8 15 (by decide), F1 9 _ _ (by decide), Mo 42 (by decide)]
    exact this
  · have R := h.rp hi
    by_cases e : i = r
    · subst e
      unfold q_Rp at R ⊢
      simp only [F8 13 (by decide), F2, F6, Mo 29 (by decide), Mo 30 (by decide), Mo 31 (by decide), Mo 32 (by decide), Mo 33 (by decide), Mo 40 (by decide), m38]
      simp at R ⊢
      exact ⟨R.1, R.2.1, R.2.2.1, R.2.2.2.1, R.2.2.2.2.1, R.2.2.2.2.2.1, R.2.2.2.2.2.2.1, R.2.2.2.2.2.2.2.1, R.2.2.2.2.2.2.2.2.1, R.2.2.2.2.2.2.2.2.2.2⟩
    · exact R.ag (Nat.le_refl _) (Nat.le_of_eq (F8 13 (by decide)).symm) (fun k => by rw [F2, if_neg (fun q => e q.1)]) (fun k => by rw [F6, if_neg (fun q => e q.2.1), if_neg (fun q => e q.1)]) (fun l hl => q_mdl_Ii (by omega))
  · exact (h.rs hi).ag (Nat.le_of_eq (F8 14 (by decide)).symm) (fun k => by rw [F2, if_neg (fun q => hne q.1)]) (fun k => by rw [F6, if_neg (fun q => hne q.2.1), if_neg (fun q => hne q.1)]) (by rw [F3, if_neg (fun q => hne q.2)]) (by rw [F4, if_neg (fun q => hne q.2)]) (fun l hl => q_mdl_Ii (by omega))
  · intro i h1 h2
    rw [F8 15 (by decide)] at h1
    rw [F3, if_neg (by omega)]
    exact h.Ro i h1 h2
  · intro j hj
    rw [F8b] at hj
    by_cases e : j < k_Z a 16
    · rw [(F9 j 0 e).2, (F9 j 1 e).1, (F9 j 2 e).1]
      exact h.Sn j e
    · by_cases e2 : o = 103
      · rw [if_pos e2] at hj
        have ej : j = k_Z a 16 := by omega
        obtain ⟨n, n1, n2, n3⟩ := hd e2
        obtain ⟨g1, g2, g3⟩ := F10 e2
        subst ej
        exact ⟨u, T, T + n, g1, g2, by rw [g3, n3, nI_add], by omega, Nat.le_refl _, by omega⟩
      · rw [if_neg e2] at hj
        omega
  · intro i hi s1 s2
    rw [F8 15 (by decide)] at hi
    by_cases e : i = r
    · subst e
      rw [m39] at s2
      obtain ⟨g1, g2, g3⟩ := F10 s2
      obtain ⟨q1, q2⟩ := m36 s2
      refine ⟨k_Z a 16, by rw [F8b, if_pos s2]; omega, by rw [F6, if_pos ⟨s2, rfl, rfl⟩], ?_, ?_, ?_⟩
      · rw [g1, F6, if_neg (by omega), if_neg (by omega), hu]
      · rw [g2, q1, h.Td.2.1]
      · rw [g3, q2, h.Td.2.1]
    · rw [q_mdl_Ii (by omega)] at s1 s2
      obtain ⟨j, hj, g1, g2, g3, g4⟩ := h.Sr i hi s1 s2
      refine ⟨j, by rw [F8b]; split <;> omega, ?_, ?_, ?_, ?_⟩
      · rw [F6, if_neg (fun q => e q.2.1), if_neg (fun q => e q.1)]; exact g1
      · rw [(F9 j 0 hj).2, F6, if_neg (fun q => e q.2.1), if_neg (fun q => e q.1)]; exact g2
      · rw [(F9 j 1 hj).1, q_mdl_Ii (by omega)]; exact g3
      · rw [(F9 j 2 hj).1, q_mdl_Ii (by omega)]; exact g4
  · intro op hc f hf
    have old := h.Sd op hc f (fun j hj hdj => hf j (by rw [F8b]; split <;> omega) (by rw [(F9 j 2 hj).1]; exact hdj))
    rw [F8 15 (by decide), F8b]
    have cu : ∀ i, i ≠ r → k_P a' 5 i 9 = k_P a 5 i 9 := fun i hne => by rw [F6, if_neg (fun q => hne q.2.1), if_neg (fun q => hne q.1)]
    have hg0 : (fun i => if k_I m 38 0 i = 100 ∧ k_I m 39 0 i = 103 then f ((k_P a 5 i 9).getD 0) else 0) r = 0 := if_neg (fun q => hs q.1)
    have hgi : ∀ i, i < k_Z a 15 → i ≠ r → (fun i => if k_I (q_mdl m r o b d) 38 0 i = 100 ∧ k_I (q_mdl m r o b d) 39 0 i = 103 then f ((k_P a' 5 i 9).getD 0) else 0) i = (fun i => if k_I m 38 0 i = 100 ∧ k_I m 39 0 i = 103 then f ((k_P a 5 i 9).getD 0) else 0) i := fun i hi hne => by
      dsimp only
      rw [q_mdl_Ii (by omega), q_mdl_Ii (by omega), cu i hne]
    by_cases e2 : o = 103
    · rw [if_pos e2]
      show op (q_fd op 0 f (k_Z a 16)) (f (k_Z a 16)) = _
      have hgr : (fun i => if k_I (q_mdl m r o b d) 38 0 i = 100 ∧ k_I (q_mdl m r o b d) 39 0 i = 103 then f ((k_P a' 5 i 9).getD 0) else 0) r = f (k_Z a 16) := by
        dsimp only
        rw [m38, m39, if_pos ⟨rfl, e2⟩, F6, if_pos ⟨e2, rfl, rfl⟩]
        rfl
      rw [old, ← hgr]
      exact (q_fd_u (f := fun i => if k_I m 38 0 i = 100 ∧ k_I m 39 0 i = 103 then f ((k_P a 5 i 9).getD 0) else 0) (g := fun i => if k_I (q_mdl m r o b d) 38 0 i = 100 ∧ k_I (q_mdl m r o b d) 39 0 i = 103 then f ((k_P a' 5 i 9).getD 0) else 0) (r := r) hc hg0 hr hgi).symm
    · rw [if_neg e2, old]
      refine q_fd_c (fun i hi => ?_)
      by_cases e : i = r
      · rw [e]
        refine hg0.trans ?_
        rw [m39, if_neg (fun q => e2 q.2)]
      · exact (hgi i hi e).symm
  · unfold q_Sj
    rw [q_mdl_J, h.Sj, F8b]
    have sm : q_sN (q_dy T a') (k_Z a 16) = q_sN (q_dy T a) (k_Z a 16) := q_fd_c (fun j hj => by
      show q_dy T a' j = q_dy T a j
      unfold q_dy
      rw [(F9 j 1 hj).1, (F9 j 2 hj).1])
    by_cases e2 : o = 103
    · rw [if_pos e2]
      show lN _ = lN (q_sN (q_dy T a') (k_Z a 16) + q_dy T a' (k_Z a 16))
      obtain ⟨n, n1, n2, n3⟩ := hd e2
      obtain ⟨g1, g2, g3⟩ := F10 e2
      have : q_dy T a' (k_Z a 16) = 0 := by
        unfold q_dy
        rw [g2, g3, n3, nI_add, q_c (by omega), q_c (by omega), Nat.min_eq_right (by omega)]
        omega
      rw [sm, this, Nat.add_zero]
    · rw [if_neg e2, sm]
  · obtain ⟨⟨D, d1, d2⟩, d3, d4, d5⟩ := h.De
    refine ⟨⟨D + 1, by rw [F8a]; omega, by rw [m29, d2, nI_1]⟩, by rw [F5, m29, d3], ?_, ?_⟩
    · rw [F8a, F8b]
      split <;> omega
    · rw [F8a, d5, F8 15 (by decide)]
      refine Eq.symm (q_fd_i q_cm_n (c := 1) (r := r) ?_ hr (fun i hi hne => ?_))
      · show q_ec (k_I (q_mdl m r o b d) 38 0 r) (k_I (q_mdl m r o b d) 40 0 r) = q_ec (k_I m 38 0 r) (k_I m 40 0 r) + 1
        rw [m38, Mo 40 (by decide)]
        have n45 : ∀ x, q_oc x → x ≠ 45 := fun x q e => by
          rw [e] at q
          rcases q with q | q | q | q <;> exact absurd q (by decide)
        rcases h.rs hr with q | q | q | q
        · rw [q.1, q.2.2.2.1]; rfl
        · exact absurd q.1 hs
        · rw [q.1]
          unfold q_ec
          rw [if_neg (by decide), if_neg (by decide), if_neg (n45 _ q.2.2.1)]
          rfl
        · exact absurd q.1 hs
      · show q_ec (k_I (q_mdl m r o b d) 38 0 i) (k_I (q_mdl m r o b d) 40 0 i) = q_ec (k_I m 38 0 i) (k_I m 40 0 i)
        rw [q_mdl_Ii (by omega), q_mdl_Ii (by omega)]
  · obtain ⟨hE, hmm, hk⟩ := h.Mi
    have hcl : ∀ i, q_cl (q_hr a' i).1 (fun j => k_I a' 2 j 1) = q_cl (q_hr a i).1 (fun j => k_I a 2 j 1) := fun i => by
      rw [F13]
      refine congrArg (q_cl (q_hr a i).1) (funext fun j => F1 2 j 1 (by decide))
    obtain ⟨C, Cm⟩ := q_hs_c (a := a) (a' := a') (n := k_Z a 17) hz5 hE F11 (fun i hi => ⟨hcl i, by rw [F2, if_neg (by omega)]⟩)
    obtain ⟨g1, g2, g3, g4⟩ := F12
    have st := q_hs_s a' (fun _ => 45) (fun _ => 0) (k_Z a 17)
    rw [if_pos g2, g1, g3, g4] at st
    have stp : q_hs0 a' (k_Z a 17 + 1) = _ := st
    have eo : q_fc (q_cl (q_hr a' r).1 (fun j => k_I a' 2 j 1)) (q_eo (q_pr r (fun i => k_I a' 5 i 3) (q_hs0 a' (k_Z a 17)).1 (q_hs0 a' (k_Z a 17)).2.1 20).1 (q_hs0 a' (k_Z a 17)).1) sF sA = o := by
      rw [ho]
      unfold q_hf
      rw [q_fo_fc, hcl]
      have epr : q_pr r (fun i => k_I a' 5 i 3) (q_hs0 a' (k_Z a 17)).1 (q_hs0 a' (k_Z a 17)).2.1 20 = q_hp a 0 r := by
        obtain ⟨n, hn⟩ : ∃ n, 20 = k_Z a 15 + n := ⟨20 - k_Z a 15, by omega⟩
        have e20 : q_pr r (fun i => k_I a' 5 i 3) (q_hs0 a' (k_Z a 17)).1 (q_hs0 a' (k_Z a 17)).2.1 20 = q_pr r (fun j => k_I a 5 j 3) (fun j => k_I a 10 0 j) (fun j => k_I a 11 0 j) 20 := by
          have g45 : ∀ x, q_gi x ≠ 0 → x ≠ 45 := fun x q e => q (by rw [e]; decide)
          refine q_pr_c (by show k_I a' 5 r 3 = k_I a 5 r 3; rw [F2, if_neg (by omega)]) (by omega) (fun i hi => ⟨by rw [← (C i hi).1]; exact (hk i hi).1, fun _ => by show k_I a' 5 i 3 = k_I a 5 i 3; rw [F2, if_neg (by omega)]⟩) (fun i j hi hj q1 q2 => ?_)
          have t : ∀ i, i < 20 → q_gi ((q_hs0 a' (k_Z a 17)).1 i) ≠ 0 → (q_hs0 a' (k_Z a 17)).2.1 i = k_I a 11 0 i := fun i hi q => by
            rw [← (C i hi).1] at q
            rw [← (C i hi).2.2.1 (g45 _ q)]
            exact (hk i hi).2 (by rw [← (hk i hi).1]; exact g45 _ q)
          rw [t i hi q1, t j hj q2]
        rw [e20, hn]
        exact q_pr_x (fun i h1 h2 => by
          show q_gi (k_I a 10 0 i) = 0
          rw [h.Ro i h1 (by omega)]
          decide)
      rw [epr]
      refine congrArg (fun z => q_fc (q_cl (q_hr a r).1 (fun j => k_I a 2 j 1)) z sF sA) ?_
      have hj2 : q_hp a 0 r = (-1, 0) ∨ _ := q_pr_j _
      unfold q_eo
      rcases hj2 with e2 | ⟨i, hi1, e2, -⟩
      · rw [e2, if_pos (by decide), if_pos (by decide)]
      · rw [show q_hp a 0 r = (nI i, _) from e2]
        dsimp only
        rw [if_neg (nI_pos (by omega)), if_neg (nI_pos (by omega)), q_c (by omega), ← (C i (by omega)).1]
        exact (hk i (by omega)).1
    have stp2 : q_hs0 a' (k_Z a 17 + 1) = (q_up (q_hs0 a' (k_Z a 17)).1 r o, q_up (q_hs0 a' (k_Z a 17)).2.1 r ((q_hs0 a' (k_Z a 17)).2.2 + 1), (q_hs0 a' (k_Z a 17)).2.2 + 1) := by
      rw [stp]
      show (q_up (q_hs0 a' (k_Z a 17)).1 r (q_fc _ (q_eo (q_pr r (fun i => k_I a' 5 i 3) (q_hs0 a' (k_Z a 17)).1 (q_hs0 a' (k_Z a 17)).2.1 20).1 (q_hs0 a' (k_Z a 17)).1) sF sA), _, _) = _
      rw [show q_fc (q_cl (q_hr a' ((some r).getD 0)).1 (fun j => k_I a' 2 j 1)) (q_eo (q_pr r (fun i => k_I a' 5 i 3) (q_hs0 a' (k_Z a 17)).1 (q_hs0 a' (k_Z a 17)).2.1 20).1 (q_hs0 a' (k_Z a 17)).1) sF sA = o from eo]
      rfl
    refine ⟨?_, ?_, fun k hk2 => ?_⟩
    · intro j hj
      rw [F8a] at hj
      rw [F8 15 (by decide)]
      by_cases e : j < k_Z a 17
      · rw [(F11 j e).1]
        exact hE j e
      · have : j = k_Z a 17 := by omega
        subst this
        exact ⟨r, hr, g1⟩
    · rw [F8a, stp2, F5]
      show (q_hs0 a' (k_Z a 17)).2.2 + 1 = _
      rw [← Cm, hmm]
    · rw [F8a, stp2, F3, F4]
      show q_up (q_hs0 a' (k_Z a 17)).1 r o k = _ ∧ (_ → q_up (q_hs0 a' (k_Z a 17)).2.1 r ((q_hs0 a' (k_Z a 17)).2.2 + 1) k = _)
      unfold q_up
      by_cases e : k = r
      · rw [if_pos e, if_pos ⟨rfl, e⟩, if_pos e, if_pos ⟨rfl, e⟩, ← Cm, hmm]
        exact ⟨rfl, fun _ => rfl⟩
      · rw [if_neg e, if_neg (fun q => e q.2), if_neg e, if_neg (fun q => e q.2), ← (C k hk2).1]
        refine ⟨(hk k hk2).1, fun q => ?_⟩
        rw [← (C k hk2).2.2.1 (by rw [(hk k hk2).1]; exact q)]
        exact (hk k hk2).2 q
