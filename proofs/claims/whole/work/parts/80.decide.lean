/-! ===== THE PURE PART: decide ===== -/
theorem q_Sr.a5 {a a' m m' : k_S} (h : q_Sr a m) (P5 : ∀ i k, k_P a' 5 i k = k_P a 5 i k) (A : ∀ l, l = 6 ∨ l = 15 ∨ l = 16 → q_al l a a') (B : ∀ l, 36 ≤ l ∧ l ≤ 39 → q_al l m m') : q_Sr a' m' := by
  unfold q_Sr at h ⊢
  simp only [P5, (A 6 (by omega)).1, (A 6 (by omega)).2.1, (A 15 (by omega)).2.2, (A 16 (by omega)).2.2, (B 36 (by omega)).1, (B 37 (by omega)).1, (B 38 (by omega)).1, (B 39 (by omega)).1]
  exact h
theorem q_Sd.a5 {T : Nat} {a a' m m' : k_S} (h : q_Sd T a m) (P5 : ∀ i k, k_P a' 5 i k = k_P a 5 i k) (A : ∀ l, l = 6 ∨ l = 15 ∨ l = 16 → q_al l a a') (B : ∀ l, l = 38 ∨ l = 39 → q_al l m m') : q_Sd T a' m' := by
  unfold q_Sd at h ⊢
  simp only [P5, (A 6 (by omega)).1, (A 15 (by omega)).2.2, (A 16 (by omega)).2.2, (B 38 (by omega)).1, (B 39 (by omega)).1]
  exact h
theorem q_Mi.a5 {a a' : k_S} (h : q_Mi a) (I5 : ∀ i, k_I a' 5 i 3 = k_I a 5 i 3 ∧ k_I a' 5 i 5 = k_I a 5 i 5) (A : ∀ l, l = 2 ∨ l = 7 ∨ l = 8 ∨ l = 10 ∨ l = 11 ∨ l = 12 ∨ l = 15 ∨ l = 17 → q_al l a a') : q_Mi a' := by
  unfold q_Mi q_En q_hs0 q_hs q_hr q_ho at h ⊢
  simp only [(A 2 (by omega)).1, (I5 _).1, (I5 _).2, (A 7 (by omega)).1, (A 7 (by omega)).2.1, (A 8 (by omega)).1, (A 10 (by omega)).1, (A 11 (by omega)).1, (A 12 (by omega)).2.2, (A 15 (by omega)).2.2, (A 17 (by omega)).2.2]
  exact h
theorem q_Rp.a12 {T : Nat} {a a' m m' : k_S} {r : Nat} (h : q_Rp T a m r) (hU : k_Z a' 13 = k_Z a 13) (A : ∀ k, k ≠ 12 → k_I a' 5 r k = k_I a 5 r k) (P : ∀ k, k_P a' 5 r k = k_P a 5 r k) (B : ∀ l, (29 ≤ l ∧ l ≤ 33) ∨ l = 38 ∨ l = 40 → k_I m' l 0 r = k_I m l 0 r) : q_Rp T a' m' r := by
  unfold q_Rp at h ⊢
  simp only [hU, A 0 (by decide), A 3 (by decide), A 4 (by decide), A 5 (by decide), A 7 (by decide), A 11 (by decide), P, B 29 (by omega), B 30 (by omega), B 31 (by omega), B 32 (by omega), B 33 (by omega), B 38 (by omega), B 40 (by omega)]
  exact h
theorem q_n45 {x : Int32} (q : q_oc x) : x ≠ 45 := fun e => by
  rw [e] at q
  rcases q with q | q | q | q <;> exact absurd q (by decide)
/-- there is room for a decision -/
theorem q_I.roomZ {T : Nat} {a m : k_S} (h : q_I T a m) {r : Nat} (hr : r < k_Z a 15) (hs : k_I m 38 0 r ≠ 100 ∨ k_I m 40 0 r = 45) : k_Z a 17 < 60 ∧ k_Z a 16 < 60 := by
  have hz := h.H.z15
  obtain ⟨-, -, d4, d5⟩ := h.De
  have hb : ∀ i, q_ec (k_I m 38 0 i) (k_I m 40 0 i) ≤ 3 := fun i => by
    unfold q_ec
    split
    · omega
    · split
      · omega
      · split <;> omega
  have hr2 : q_ec (k_I m 38 0 r) (k_I m 40 0 r) ≤ 2 := by
    rcases (h.st hr).2 with e | e | e
    · rw [e]; unfold q_ec; rw [if_pos rfl]; omega
    · rcases hs with q | q
      · exact absurd e q
      · rw [e, q]; unfold q_ec; rw [if_neg (by decide), if_neg (by decide), if_pos rfl]; omega
    · rw [e]; unfold q_ec; rw [if_neg (by decide), if_pos rfl]; omega
  have e := q_fd_i (f := fun i => q_ec (k_I m 38 0 i) (k_I m 40 0 i)) (g := fun i => if i = r then q_ec (k_I m 38 0 r) (k_I m 40 0 r) + 1 else q_ec (k_I m 38 0 i) (k_I m 40 0 i)) (r := r) (c := 1) (n := k_Z a 15) q_cm_n (if_pos rfl) hr (fun i _ hne => if_neg hne)
  have le := q_sN_le (f := fun i => if i = r then q_ec (k_I m 38 0 r) (k_I m 40 0 r) + 1 else q_ec (k_I m 38 0 i) (k_I m 40 0 i)) (b := 3) (n := k_Z a 15) (fun i _ => by
    show (if i = r then _ else _) ≤ 3
    split
    · omega
    · exact hb i)
  have e2 : q_sN (fun i => if i = r then q_ec (k_I m 38 0 r) (k_I m 40 0 r) + 1 else q_ec (k_I m 38 0 i) (k_I m 40 0 i)) (k_Z a 15) = k_Z a 17 + 1 := by
    rw [d5]
    exact e
  omega
/-- the rule's days -/
theorem q_I.rd {T : Nat} {a m : k_S} (h : q_I T a m) {r : Nat} (hr : r < k_Z a 15) {sF sA : Int32} : k_I a 2 (q_hr a r).1.toNatClampNeg 3 = k_I m 22 0 (q_mr (k_Z a 12) m r).1.toNatClampNeg ∨ q_hf a 0 r sF sA ≠ 103 := by
  have hz := h.H.z12
  by_cases e : q_hf a 0 r sF sA = 103
  · obtain ⟨j, hj, h1⟩ := q_hr_nj hz e
    rw [← h.hr hr, h1, q_c (by omega)]
    exact Or.inl (h.Ru j hj).2.2.2.2.1
  · exact Or.inr e
theorem q_I.rd2 {T : Nat} {a m : k_S} (h : q_I T a m) {r : Nat} {sF sA : Int32} (e : q_hf a 0 r sF sA = 103) : ∃ n, 1 ≤ n ∧ n ≤ 60 ∧ k_I a 2 (q_hr a r).1.toNatClampNeg 3 = nI n := by
  have hz := h.H.z12
  obtain ⟨j, hj, h1⟩ := q_hr_nj hz e
  rw [h1, q_c (by omega), (h.Ru j hj).2.2.2.2.1]
  exact (h.Ru j hj).2.2.2.2.2.1
theorem q_mdl_d {m : k_S} {r : Nat} {o b d d' : Int32} (h : d = d' ∨ o ≠ 103) : q_mdl m r o b d = q_mdl m r o b d' := by
  rcases h with e | e
  · rw [e]
  · unfold q_mdl
    rw [if_neg e, if_neg e]
/-- a first decision -/
theorem q_first_I {T : Nat} {a m : k_S} (h : q_I T a m) {r u : Nat} (hr : r < k_Z a 15) (hs : k_I m 38 0 r = 111) (hu : k_P a 5 r 2 = some u) {p : Option Nat} {b : Int32} (hb : q_bot (k_Z a 14) p b) (sF sA : Int32) : q_I T (q_stl (k_uP a 5 r 8 p) r u (q_hf a 0 r sF sA) sF sA (k_I a 2 (q_hr a r).1.toNatClampNeg 3)) (q_mdl m r (q_hf a 0 r sF sA) b (k_I a 2 (q_hr a r).1.toNatClampNeg 3)) := by
  have k9 : (111 : Int32) ≠ 100 := by decide
  have hs2 : k_I m 38 0 r ≠ 100 := by rw [hs]; exact k9
  obtain ⟨rz1, rz2⟩ := h.roomZ hr (Or.inl hs2)
  have A := q_dA_of h rz1 rz2 (r := r) (u := u) (p := p) (o := q_hf a 0 r sF sA) (sF := sF) (sA := sA) (d := k_I a 2 (q_hr a r).1.toNatClampNeg 3)
  obtain ⟨cM, cTd, cRu, cUs, cBo, cVo, cRp, cRs, cRo, cSn, cSr, cSd, cSj, cDe, cMi⟩ := q_dec (b := b) h hr hs2 hu rfl (fun e => h.rd2 e) A rfl
  have hoc : q_oc (q_hf a 0 r sF sA) := by
    unfold q_hf
    rw [q_fo_fc]
    exact q_fc_oc
  generalize q_stl (k_uP a 5 r 8 p) r u (q_hf a 0 r sF sA) sF sA (k_I a 2 (q_hr a r).1.toNatClampNeg 3) = a' at *
  generalize k_I a 2 (q_hr a r).1.toNatClampNeg 3 = d at *
  generalize q_hf a 0 r sF sA = o at *
  obtain ⟨F1, F2, F3, F4, F5, F6, F8, F8a, F8b, F9, F10, F11, F12, F13, hH⟩ := A
  obtain ⟨m38, m39, m35, m34, m29, m36⟩ := q_mdl_r (m := m) (r := r) (o := o) (b := b) (d := d)
  have m40 : ∀ i, k_I (q_mdl m r o b d) 40 0 i = k_I m 40 0 i := fun i => q_mdl_Io (by omega)
  obtain ⟨D, dd1, dd2⟩ := h.De.1
  rcases h.rs hr with q | q | q | q
  rotate_left
  · exact absurd q.1 hs2
  · rw [q.1] at hs; exact absurd hs (by decide)
  · exact absurd q.1 hs2
  obtain ⟨q1, q2, q3, q4, q5, q6, q7⟩ := q
  refine ⟨hH, cM, cTd, cRu, cUs, cBo, cVo, ?_, cRo, cSn, cSr, cSd, cSj, ?_, cDe, cMi⟩
  · intro i hi
    rw [F8 15 (by decide)] at hi
    refine ⟨cRp i hi, ?_⟩
    by_cases e : i = r
    · subst e
      refine Or.inr (Or.inl ⟨m38, ?_, by rw [m39]; exact hoc, ?_, ⟨D, by omega, by rw [m34, dd2]⟩, by rw [m40, q4], ?_, ?_, ?_, fun q => ?_⟩)
      · rw [F3, if_pos ⟨rfl, rfl⟩, m39]
      · rw [F4, if_pos ⟨rfl, rfl⟩, m34, h.De.2.1]
      · rw [F2, if_neg (by omega), q5]
      · rw [F2, if_neg (by omega), q6]
      · rw [F6, if_neg (by omega), if_pos ⟨rfl, rfl⟩, m35, F8 14 (by decide)]
        exact hb
      · rw [m39] at q
        rw [F6, if_neg (fun z => q z.1), if_neg (by omega), q3]
    · exact cRs i hi e
  · obtain ⟨t1, t2⟩ := h.Ct
    refine ⟨?_, ?_⟩
    · rw [q_mdl_Io (by decide), t1, F8 15 (by decide)]
      refine q_fd_c (fun i hi => ?_)
      by_cases e : i = r
      · subst e
        rw [m38, m40, q4, hs, if_neg (fun z => k9 z)]
        rfl
      · rw [q_mdl_Ii (by omega), m40]
    · rw [q_mdl_Io (by decide), t2, F8 15 (by decide)]
      refine q_fd_c (fun i hi => ?_)
      unfold q_mrv
      by_cases e : i = r
      · subst e
        rw [m38, m40, q4, hs, if_neg (fun z => k9 z)]
        rfl
      · rw [q_mdl_Ii (by omega), m40, q_mdl_Ii (by omega)]
def q_lrn (rv t : Int32) : Int32 := if rv = 0 then (if t - 1 < 50 then 50 else t - 1) else (if 100 < t + 5 then 100 else t + 5)
def q_cH (a : k_S) (r : Nat) (rv : Int32) (p : Option Nat) (er : Int32) : k_S := match p with
  | none => k_uI a 5 r 12 rv
  | some j => if er = 103 then k_uI (k_uI a 5 r 12 rv) 4 j 1 (q_lrn rv (k_I a 4 j 1)) else k_uI a 5 r 12 rv
def q_cM0 (m : k_S) (rv : Int32) : k_S := k_uI (k_uI m 1 0 30 (k_I m 1 0 30 + 1)) 1 0 31 (k_I m 1 0 31 + rv)
def q_cM (m : k_S) (rv b er : Int32) : k_S := if b < 0 then q_cM0 m rv else if er = 103 then k_uI (q_cM0 m rv) 27 0 b.toNatClampNeg (q_lrn rv (k_I m 27 0 b.toNatClampNeg)) else q_cM0 m rv
theorem q_lrn_ok {rv t : Int32} (h1 : 50 ≤ t) (h2 : t ≤ 100) : 50 ≤ q_lrn rv t ∧ q_lrn rv t ≤ 100 := by
  obtain ⟨n, n1, n2, rfl⟩ := q_rwI (x := t) (a := 50) (b := 100) (na := 50) (nb := 100) rfl (by decide) (by omega) ⟨h1, h2⟩ (by decide)
  unfold q_lrn
  by_cases e : rv = 0
  · rw [if_pos e]
    obtain ⟨k, rfl⟩ : ∃ k, n = k + 1 := ⟨n - 1, by omega⟩
    rw [nI_pred]
    by_cases e2 : nI k < 50
    · rw [if_pos e2]; decide
    · rw [if_neg e2]
      exact ⟨Int32.not_lt.mp e2, nI_le (b := 100) (by omega) (by omega)⟩
  · rw [if_neg e, show nI n + 5 = nI n + nI 5 from rfl, nI_add]
    by_cases e2 : 100 < nI (n + 5)
    · rw [if_pos e2]; decide
    · rw [if_neg e2]
      exact ⟨nI_le (a := 50) (by omega) (by omega), Int32.not_lt.mp e2⟩
/-- a decision on appeal, the thresholds aside -/
theorem q_app0_I {T : Nat} {a m : k_S} (h : q_I T a m) {r u : Nat} (hr : r < k_Z a 15) (hs : k_I m 38 0 r = 101) (hu : k_P a 5 r 2 = some u) (sF sA : Int32) (rv : Int32) (hrv : rv = if k_I m 40 0 r = q_hf a 0 r sF sA then 0 else 1) : q_I T (k_uI (q_stl a r u (q_hf a 0 r sF sA) sF sA (k_I a 2 (q_hr a r).1.toNatClampNeg 3)) 5 r 12 rv) (q_cM0 (q_mdl m r (q_hf a 0 r sF sA) (-1) (k_I a 2 (q_hr a r).1.toNatClampNeg 3)) rv) := by
  have k9 : (101 : Int32) ≠ 100 := by decide
  have hs2 : k_I m 38 0 r ≠ 100 := by rw [hs]; exact k9
  have hz5 := h.H.z15
  obtain ⟨rz1, rz2⟩ := h.roomZ hr (Or.inl hs2)
  have A := q_dA_of h rz1 rz2 (r := r) (u := u) (p := k_P a 5 r 8) (o := q_hf a 0 r sF sA) (sF := sF) (sA := sA) (d := k_I a 2 (q_hr a r).1.toNatClampNeg 3)
  rw [q_uP_id] at A
  obtain ⟨cM, cTd, cRu, cUs, cBo, cVo, cRp, cRs, cRo, cSn, cSr, cSd, cSj, cDe, cMi⟩ := q_dec (b := -1) h hr hs2 hu rfl (fun e => h.rd2 e) A rfl
  have hoc : q_oc (q_hf a 0 r sF sA) := by
    unfold q_hf
    rw [q_fo_fc]
    exact q_fc_oc
  generalize q_stl a r u (q_hf a 0 r sF sA) sF sA (k_I a 2 (q_hr a r).1.toNatClampNeg 3) = a' at *
  generalize k_I a 2 (q_hr a r).1.toNatClampNeg 3 = d at *
  generalize q_hf a 0 r sF sA = o at *
  obtain ⟨F1, F2, F3, F4, F5, F6, F8, F8a, F8b, F9, F10, F11, F12, F13, hH⟩ := A
  obtain ⟨m38, m39, m35, m34, m29, m36⟩ := q_mdl_r (m := m) (r := r) (o := o) (b := -1) (d := d)
  have m40 : ∀ i, k_I (q_mdl m r o (-1) d) 40 0 i = k_I m 40 0 i := fun i => q_mdl_Io (by omega)
  have m30 : k_I (q_mdl m r o (-1) d) 1 0 30 = k_I m 1 0 30 := q_mdl_Io (by decide)
  have m31 : k_I (q_mdl m r o (-1) d) 1 0 31 = k_I m 1 0 31 := q_mdl_Io (by decide)
  have mi : ∀ l i, i ≠ r → l ≠ 1 → k_I (q_mdl m r o (-1) d) l 0 i = k_I m l 0 i := fun l i h1 h2 => q_mdl_Ii ⟨h1, h2⟩
  generalize q_mdl m r o (-1) d = m' at *
  obtain ⟨D, dd1, dd2⟩ := h.De.1
  have al5 : ∀ l, l ≠ 5 → q_al l a' (k_uI a' 5 r 12 rv) := fun l hl => q_al.rf.uI hl
  have alm : ∀ l, l ≠ 1 → q_al l m' (q_cM0 m' rv) := fun l hl => (q_al.rf.uI hl).uI hl
  have i5 : ∀ i k, k ≠ 12 ∨ i ≠ r → k_I (k_uI a' 5 r 12 rv) 5 i k = k_I a' 5 i k := fun i k hk => by rw [q_II, if_neg (by omega)]
  have p5 : ∀ i k, k_P (k_uI a' 5 r 12 rv) 5 i k = k_P a' 5 i k := fun i k => by rw [q_PI]
  have z5 : ∀ l, k_Z (k_uI a' 5 r 12 rv) l = k_Z a' l := fun l => by rw [q_ZI]
  have s1 : ∀ k, k ≠ 30 → k ≠ 31 → k_I (q_cM0 m' rv) 1 0 k = k_I m' 1 0 k := fun k h1 h2 => by unfold q_cM0; rw [q_II, if_neg (by omega), q_II, if_neg (by omega)]
  rcases h.rs hr with q | q | q | q
  · rw [q.1] at hs; exact absurd hs (by decide)
  · exact absurd q.1 hs2
  rotate_left
  · exact absurd q.1 hs2
  obtain ⟨q1, q2, q3, q4, q5, q6⟩ := q
  refine ⟨q_H_uI hH, ?_, q_sc cTd ((al5 0 (by decide)).1 0 8) (s1 14 (by decide) (by decide)) ((al5 0 (by decide)).1 0 9) (s1 13 (by decide) (by decide)), cRu.ag (fun l hl => al5 l (by omega)) (fun l hl => alm l (by omega)), cUs.ag (fun l hl => al5 l (by omega)) (fun l hl => alm l (by omega)), cBo.ag (fun l hl => al5 l (by omega)) (fun l hl => alm l (by omega)), cVo.ag (fun l hl => al5 l (by omega)) (fun l hl => alm l (by omega)), ?_, cRo.ag (fun l hl => al5 l (by omega)), cSn.ag (Nat.le_refl _) (fun l hl => al5 l (by omega)), cSr.a5 p5 (fun l hl => al5 l (by omega)) (fun l hl => alm l (by omega)), cSd.a5 p5 (fun l hl => al5 l (by omega)) (fun l hl => alm l (by omega)), cSj.ag (fun l hl => al5 l (by omega)) ?_, ?_, cDe.ag (fun l hl => al5 l (by omega)) (s1 29 (by decide) (by decide)) (fun l hl => alm l (by omega)), cMi.a5 (fun i => ⟨i5 i 3 (by omega), i5 i 5 (by omega)⟩) (fun l hl => al5 l (by omega))⟩
  · rw [z5, z5, z5, z5]
    exact (cM.uI (Or.inr (by decide))).uI (Or.inr (by decide))
  · intro i hi
    rw [z5, F8 15 (by decide)] at hi
    by_cases e : i = r
    · subst e
      refine ⟨(cRp i hi).a12 (z5 13) (fun k hk => i5 i k (Or.inl hk)) (fun k => p5 i k) (fun l hl => (alm l (by omega)).1 0 i), ?_⟩
      unfold q_Rs
      rw [(alm 38 (by decide)).1, (alm 39 (by decide)).1, (alm 40 (by decide)).1, (alm 34 (by decide)).1, (alm 35 (by decide)).1, (al5 10 (by decide)).1, (al5 11 (by decide)).1, i5 i 10 (by omega)]
      refine Or.inr (Or.inr (Or.inr ⟨m38, ?_, by rw [m39]; exact hoc, ?_, ⟨D, by omega, by rw [m34, dd2]⟩, by rw [m40]; exact q3, ?_, ?_, m35⟩))
      · rw [F3, if_pos ⟨rfl, rfl⟩, m39]
      · rw [F4, if_pos ⟨rfl, rfl⟩, m34, h.De.2.1]
      · rw [F2, if_neg (by omega), q4]
      · rw [q_II, if_pos ⟨rfl, rfl, rfl⟩, m40, m39, hrv]
    · exact ⟨(cRp i hi).ag (Nat.le_refl _) (Nat.le_of_eq (z5 13).symm) (fun k => i5 i k (Or.inr e)) (fun k => p5 i k) (fun l hl => (alm l (by omega)).1 0 i), (cRs i hi e).ag (Nat.le_of_eq (z5 14).symm) (fun k => i5 i k (Or.inr e)) (fun k => p5 i k) ((al5 10 (by decide)).1 0 i) ((al5 11 (by decide)).1 0 i) (fun l hl => (alm l (by omega)).1 0 i)⟩
  · unfold q_cM0
    rw [q_JI, q_JI]
  · obtain ⟨t1, t2⟩ := h.Ct
    unfold q_Ct
    rw [z5, F8 15 (by decide)]
    refine ⟨?_, ?_⟩
    · unfold q_cM0
      rw [q_II, if_neg (by omega), q_II, if_pos ⟨rfl, rfl, rfl⟩, m30, t1]
      refine Eq.symm (q_fd_i q_cm_I (c := 1) (r := r) ?_ hr (fun i hi hne => ?_))
      · show (if k_I (q_cM0 m' rv) 38 0 r = 100 then (if k_I (q_cM0 m' rv) 40 0 r = 45 then (0 : Int32) else 1) else 0) = (if k_I m 38 0 r = 100 then (if k_I m 40 0 r = 45 then 0 else 1) else 0) + 1
        rw [(alm 38 (by decide)).1, (alm 40 (by decide)).1, m38, m40, if_pos rfl, if_neg (q_n45 q3), if_neg hs2]
        rfl
      · show (if k_I (q_cM0 m' rv) 38 0 i = 100 then (if k_I (q_cM0 m' rv) 40 0 i = 45 then (0 : Int32) else 1) else 0) = (if k_I m 38 0 i = 100 then (if k_I m 40 0 i = 45 then 0 else 1) else 0)
        rw [(alm 38 (by decide)).1, (alm 40 (by decide)).1, mi 38 i hne (by decide), mi 40 i hne (by decide)]
    · have e31 : k_I (q_cM0 m' rv) 1 0 31 = k_I m 1 0 31 + rv := by
        unfold q_cM0
        rw [q_II, if_pos ⟨rfl, rfl, rfl⟩, m31]
      rw [e31, t2]
      refine Eq.symm (q_fd_i q_cm_I (c := rv) (r := r) ?_ hr (fun i hi hne => ?_))
      · show q_mrv (q_cM0 m' rv) r = q_mrv m r + rv
        unfold q_mrv
        rw [(alm 38 (by decide)).1, (alm 40 (by decide)).1, (alm 39 (by decide)).1, m38, m40, m39, if_pos rfl, if_neg (q_n45 q3), if_neg hs2, Int32.zero_add, hrv]
      · show q_mrv (q_cM0 m' rv) i = q_mrv m i
        unfold q_mrv
        rw [(alm 38 (by decide)).1, (alm 40 (by decide)).1, (alm 39 (by decide)).1, mi 38 i hne (by decide), mi 40 i hne (by decide), mi 39 i hne (by decide)]
