/-! ===== THE PURE PART: a decision, on both sides ===== -/
theorem q_fd_i {A : Type} {op : A → A → A} {z c : A} (hc : q_cm op z) {f g : Nat → A} {r : Nat} (h0 : g r = op (f r) c) : ∀ {n : Nat}, r < n → (∀ i, i < n → i ≠ r → g i = f i) → q_fd op z g n = op (q_fd op z f n) c
  | 0, h, _ => by omega
  | n + 1, h, hg => by
    show op (q_fd op z g n) (g n) = op (op (q_fd op z f n) (f n)) c
    by_cases e : r = n
    · subst e
      rw [q_fd_c (f := g) (g := f) (fun i hi => hg i (by omega) (by omega)), h0, hc.2.1]
    · rw [q_fd_i hc h0 (by omega) (fun i hi hne => hg i (by omega) hne), hg n (by omega) (by omega), hc.2.1, hc.2.1, hc.1 c]
theorem q_uP_id (σ : k_S) (l i k : Nat) : k_uP σ l i k (k_P σ l i k) = σ :=
  Prod.ext rfl (Prod.ext rfl (Prod.ext rfl (Prod.ext (funext fun l' => funext fun i' => funext fun k' => by
    show (if l' = l ∧ i' = i ∧ k' = k then k_P σ l i k else k_P σ l' i' k') = k_P σ l' i' k'
    by_cases e : l' = l ∧ i' = i ∧ k' = k
    · rw [if_pos e, e.1, e.2.1, e.2.2]
    · rw [if_neg e]) rfl)))
theorem q_san_I {σ : k_S} {r u : Nat} {e : Int32} {l i k : Nat} (hl : l ≠ 6) : k_I (q_san σ r u e) l i k = k_I σ l i k := by
  unfold q_san
  rw [q_Ia, q_IP, q_II, if_neg (by omega), q_II, if_neg (by omega), q_IP, q_In, if_neg (by omega)]
theorem q_san_I6 {σ : k_S} {r u : Nat} {e : Int32} {i k : Nat} (hi : i ≠ k_N σ 6) : k_I (q_san σ r u e) 6 i k = k_I σ 6 i k := by
  unfold q_san
  rw [q_Ia, q_IP, q_II, if_neg (by omega), q_II, if_neg (by omega), q_IP, q_In, if_neg (by omega)]
theorem q_san_P {σ : k_S} {r u : Nat} {e : Int32} {l i k : Nat} (hl : l ≠ 6 ∧ l ≠ 16) : k_P (q_san σ r u e) l i k = if l = 5 ∧ i = r ∧ k = 9 then some (k_N σ 6) else k_P σ l i k := by
  unfold q_san
  rw [q_Pa, if_neg (by omega), q_PP, q_PI, q_PI, q_PP, if_neg (c := l = 6 ∧ _) (by omega), q_Pn, if_neg (c := l = 6 ∧ _) (by omega)]
theorem q_san_P6 {σ : k_S} {r u : Nat} {e : Int32} {i k : Nat} (hi : i ≠ k_N σ 6) : k_P (q_san σ r u e) 6 i k = k_P σ 6 i k := by
  unfold q_san
  rw [q_Pa, if_neg (by omega), q_PP, if_neg (by omega), q_PI, q_PI, q_PP, if_neg (by omega), q_Pn, if_neg (by omega)]
theorem q_san_n {σ : k_S} {r u : Nat} {e : Int32} : k_P (q_san σ r u e) 6 (k_N σ 6) 0 = some u ∧ k_I (q_san σ r u e) 6 (k_N σ 6) 1 = k_I σ 0 0 8 ∧ k_I (q_san σ r u e) 6 (k_N σ 6) 2 = e := by
  unfold q_san
  refine ⟨?_, ?_, ?_⟩
  · rw [q_Pa, if_neg (by omega), q_PP, if_neg (by omega), q_PI, q_PI, q_PP, if_pos ⟨rfl, rfl, rfl⟩]
  · rw [q_Ia, q_IP, q_II, if_neg (by omega), q_II, if_pos ⟨rfl, rfl, rfl⟩]
  · rw [q_Ia, q_IP, q_II, if_pos ⟨rfl, rfl, rfl⟩]
theorem q_san_Z {σ : k_S} {r u : Nat} {e : Int32} {l : Nat} (hl : l ≠ 6) : k_Z (q_san σ r u e) l = if l = 16 then k_Z σ 16 + 1 else k_Z σ l := by
  unfold q_san
  rw [q_Za]
  by_cases e : l = 16
  · rw [if_pos e, if_pos e, q_ZP, q_ZI, q_ZI, q_ZP, q_Zn, if_neg (by omega)]
  · rw [if_neg e, if_neg e, q_ZP, q_ZI, q_ZI, q_ZP, q_Zn, if_neg (by omega)]
theorem q_stb_N6 {σ : k_S} {r : Nat} {o sF sA : Int32} : k_N (q_stb σ r o sF sA) 6 = k_N σ 6 := by
  unfold q_stb
  rw [q_NI, q_min_N, if_neg (by decide), q_ent_N]
/-- the hall after a decision, place by place -/
theorem q_stl_I {σ : k_S} {r u : Nat} {o sF sA d : Int32} {l i k : Nat} (hl : l ≠ 6 ∧ l ≠ 7) : k_I (q_stl σ r u o sF sA d) l i k = if l = 5 ∧ i = r ∧ k = 7 then 100 else if l = 11 ∧ i = 0 ∧ k = r then k_I σ 8 0 2 + 1 else if l = 10 ∧ i = 0 ∧ k = r then o else if l = 8 ∧ i = 0 ∧ k = 2 then k_I σ 8 0 2 + 1 else k_I σ l i k := by
  unfold q_stl
  by_cases e : o = 103
  · rw [if_pos e, q_san_I hl.1, q_stb_I hl.2]
  · rw [if_neg e, q_stb_I hl.2]
theorem q_stl_Io {σ : k_S} {r u : Nat} {o sF sA d : Int32} {l i k : Nat} (hl : l ≠ 5 ∧ l ≠ 6 ∧ l ≠ 7 ∧ l ≠ 8 ∧ l ≠ 10 ∧ l ≠ 11) : k_I (q_stl σ r u o sF sA d) l i k = k_I σ l i k := by
  rw [q_stl_I (by omega), if_neg (by omega), if_neg (by omega), if_neg (by omega), if_neg (by omega)]
theorem q_stl_P {σ : k_S} {r u : Nat} {o sF sA d : Int32} {l i k : Nat} (hl : l ≠ 6 ∧ l ≠ 7 ∧ l ≠ 16 ∧ l ≠ 17) : k_P (q_stl σ r u o sF sA d) l i k = if o = 103 ∧ l = 5 ∧ i = r ∧ k = 9 then some (k_N σ 6) else k_P σ l i k := by
  unfold q_stl
  by_cases e : o = 103
  · rw [if_pos e, q_san_P (by omega), q_stb_P (by omega), q_stb_N6]
    by_cases e2 : l = 5 ∧ i = r ∧ k = 9
    · rw [if_pos e2, if_pos ⟨e, e2⟩]
    · rw [if_neg e2, if_neg (fun q => e2 q.2)]
  · rw [if_neg e, q_stb_P (by omega), if_neg (fun q => e q.1)]
theorem q_stl_Z {σ : k_S} {r u : Nat} {o sF sA d : Int32} {l : Nat} (hl : l ≠ 6 ∧ l ≠ 7) : k_Z (q_stl σ r u o sF sA d) l = if l = 17 then k_Z σ 17 + 1 else if o = 103 ∧ l = 16 then k_Z σ 16 + 1 else k_Z σ l := by
  unfold q_stl
  by_cases e : o = 103
  · rw [if_pos e, q_san_Z hl.1]
    by_cases e2 : l = 16
    · rw [if_pos e2, if_neg (by omega), if_pos ⟨e, e2⟩, q_stb_Z (by decide), if_neg (by decide)]
    · rw [if_neg e2, q_stb_Z hl.2]
      by_cases e3 : l = 17
      · rw [if_pos e3, if_pos e3]
      · rw [if_neg e3, if_neg e3, if_neg (fun q => e2 q.2)]
  · rw [if_neg e, q_stb_Z hl.2]
    by_cases e3 : l = 17
    · rw [if_pos e3, if_pos e3]
    · rw [if_neg e3, if_neg e3, if_neg (fun q => e q.1)]
theorem q_stb_6 {σ : k_S} {r : Nat} {o sF sA : Int32} {i k : Nat} : k_I (q_stb σ r o sF sA) 6 i k = k_I σ 6 i k ∧ k_P (q_stb σ r o sF sA) 6 i k = k_P σ 6 i k :=
  ⟨by rw [q_stb_I (by decide), if_neg (by omega), if_neg (by omega), if_neg (by omega), if_neg (by omega)], q_stb_P (by decide)⟩
theorem q_stl_6 {σ : k_S} {r u : Nat} {o sF sA d : Int32} {i k : Nat} (hi : i ≠ k_N σ 6) : k_I (q_stl σ r u o sF sA d) 6 i k = k_I σ 6 i k ∧ k_P (q_stl σ r u o sF sA d) 6 i k = k_P σ 6 i k := by
  unfold q_stl
  by_cases e : o = 103
  · rw [if_pos e, q_san_I6 (by rw [q_stb_N6]; exact hi), q_san_P6 (by rw [q_stb_N6]; exact hi)]
    exact q_stb_6
  · rw [if_neg e]
    exact q_stb_6
theorem q_stl_6n {σ : k_S} {r u : Nat} {o sF sA d : Int32} (e : o = 103) : k_P (q_stl σ r u o sF sA d) 6 (k_N σ 6) 0 = some u ∧ k_I (q_stl σ r u o sF sA d) 6 (k_N σ 6) 1 = k_I σ 0 0 8 ∧ k_I (q_stl σ r u o sF sA d) 6 (k_N σ 6) 2 = k_I σ 0 0 8 + d := by
  unfold q_stl
  rw [if_pos e]
  have := q_san_n (σ := q_stb σ r o sF sA) (r := r) (u := u) (e := k_I σ 0 0 8 + d)
  rw [q_stb_N6, q_stb_I (l := 0) (by decide), if_neg (by omega), if_neg (by omega), if_neg (by omega), if_neg (by omega)] at this
  exact this
theorem q_stb_7 {σ : k_S} {r : Nat} {o sF sA : Int32} {j : Nat} (hj : j ≠ k_N σ 7) : k_P (q_stb σ r o sF sA) 7 j 0 = k_P σ 7 j 0 ∧ ∀ k, k_I (q_stb σ r o sF sA) 7 j k = k_I σ 7 j k := by
  unfold q_stb
  refine ⟨?_, fun k => ?_⟩
  · rw [q_PI, q_min_P7 (by rw [q_ent_N]; exact hj), q_ent_P]
  · rw [q_II, if_neg (by omega), q_min_I7 (by rw [q_ent_N]; exact hj), q_ent_I, if_neg (by omega), if_neg (by omega), if_neg (by omega)]
theorem q_stb_7n {σ : k_S} {r : Nat} {o sF sA : Int32} : k_P (q_stb σ r o sF sA) 7 (k_N σ 7) 0 = some r ∧ k_I (q_stb σ r o sF sA) 7 (k_N σ 7) 1 = 0 ∧ k_I (q_stb σ r o sF sA) 7 (k_N σ 7) 2 = sF ∧ k_I (q_stb σ r o sF sA) 7 (k_N σ 7) 3 = sA := by
  have := q_min_n (σ := q_ent σ 0 r o) (r := r) (ap := 0) (sF := sF) (sA := sA)
  rw [q_ent_N] at this
  obtain ⟨h1, h2, h3, h4⟩ := this
  unfold q_stb
  refine ⟨?_, ?_, ?_, ?_⟩
  · rw [q_PI]; exact h1
  · rw [q_II, if_neg (by omega)]; exact h2
  · rw [q_II, if_neg (by omega)]; exact h3
  · rw [q_II, if_neg (by omega)]; exact h4
theorem q_stl_7 {σ : k_S} {r u : Nat} {o sF sA d : Int32} {j : Nat} (hj : j ≠ k_N σ 7) : k_P (q_stl σ r u o sF sA d) 7 j 0 = k_P σ 7 j 0 ∧ ∀ k, k_I (q_stl σ r u o sF sA d) 7 j k = k_I σ 7 j k := by
  unfold q_stl
  by_cases e : o = 103
  · rw [if_pos e]
    refine ⟨?_, fun k => ?_⟩
    · rw [q_san_P (by decide), if_neg (by omega)]; exact (q_stb_7 hj).1
    · rw [q_san_I (by decide)]; exact (q_stb_7 hj).2 k
  · rw [if_neg e]
    exact q_stb_7 hj
theorem q_stl_7n {σ : k_S} {r u : Nat} {o sF sA d : Int32} : k_P (q_stl σ r u o sF sA d) 7 (k_N σ 7) 0 = some r ∧ k_I (q_stl σ r u o sF sA d) 7 (k_N σ 7) 1 = 0 ∧ k_I (q_stl σ r u o sF sA d) 7 (k_N σ 7) 2 = sF ∧ k_I (q_stl σ r u o sF sA d) 7 (k_N σ 7) 3 = sA := by
  unfold q_stl
  by_cases e : o = 103
  · rw [if_pos e, q_san_P (by decide), if_neg (by omega), q_san_I (by decide), q_san_I (by decide), q_san_I (by decide)]
    exact q_stb_7n
  · rw [if_neg e]
    exact q_stb_7n
theorem q_stl_H {σ : k_S} (h : q_H σ) (hZ : k_Z σ 17 < 60) (hS : k_Z σ 16 < 60) {r u : Nat} {o sF sA d : Int32} : q_H (q_stl σ r u o sF sA d) := by
  unfold q_stl
  by_cases e : o = 103
  · rw [if_pos e]
    exact q_san_H (q_stb_H h hZ) (by rw [q_stb_Z (by decide), if_neg (by decide)]; exact hS)
  · rw [if_neg e]
    exact q_stb_H h hZ
theorem q_stl_hr {σ : k_S} {r u i : Nat} {o sF sA d : Int32} : q_hr (q_stl σ r u o sF sA d) i = q_hr σ i := by
  unfold q_hr q_ho
  simp [q_stl_I (show (5 : Nat) ≠ 6 ∧ (5 : Nat) ≠ 7 by decide), q_stl_Io (show (2 : Nat) ≠ 5 ∧ (2 : Nat) ≠ 6 ∧ (2 : Nat) ≠ 7 ∧ (2 : Nat) ≠ 8 ∧ (2 : Nat) ≠ 10 ∧ (2 : Nat) ≠ 11 by decide), q_stl_Z (show (12 : Nat) ≠ 6 ∧ (12 : Nat) ≠ 7 by decide)]
/-- the model after a decision, place by place -/
theorem q_mdl_I {m : k_S} {r : Nat} {o b d : Int32} {l i k : Nat} : k_I (q_mdl m r o b d) l i k = if o = 103 ∧ l = 37 ∧ i = 0 ∧ k = r then k_I m 1 0 14 + d else if o = 103 ∧ l = 36 ∧ i = 0 ∧ k = r then k_I m 1 0 14 else if l = 1 ∧ i = 0 ∧ k = 29 then k_I m 1 0 29 + 1 else if l = 34 ∧ i = 0 ∧ k = r then k_I m 1 0 29 else if l = 35 ∧ i = 0 ∧ k = r then b else if l = 38 ∧ i = 0 ∧ k = r then 100 else if l = 39 ∧ i = 0 ∧ k = r then o else k_I m l i k := by
  unfold q_mdl q_mdb
  by_cases e : o = 103
  · rw [if_pos e]
    simp [q_II, q_IJ, q_ID, q_IP, q_In, q_Ia, q_JI, q_JJ, q_JD, q_JP, q_Jn, q_Ja, q_PI, q_PJ, q_PD, q_PP, q_Pn, q_Pa, q_NI, q_NJ, q_ND, q_NP, q_Nn, q_Na, q_ZI, q_ZJ, q_ZD, q_ZP, q_Zn, q_Za, e]
  · rw [if_neg e]
    simp [q_II, q_IJ, q_ID, q_IP, q_In, q_Ia, q_JI, q_JJ, q_JD, q_JP, q_Jn, q_Ja, q_PI, q_PJ, q_PD, q_PP, q_Pn, q_Pa, q_NI, q_NJ, q_ND, q_NP, q_Nn, q_Na, q_ZI, q_ZJ, q_ZD, q_ZP, q_Zn, q_Za, e]
theorem q_mdl_Io {m : k_S} {r : Nat} {o b d : Int32} {l i k : Nat} (h : l ≠ 34 ∧ l ≠ 35 ∧ l ≠ 36 ∧ l ≠ 37 ∧ l ≠ 38 ∧ l ≠ 39 ∧ (l ≠ 1 ∨ k ≠ 29)) : k_I (q_mdl m r o b d) l i k = k_I m l i k := by
  rw [q_mdl_I, if_neg (by omega), if_neg (by omega), if_neg (by omega), if_neg (by omega), if_neg (by omega), if_neg (by omega), if_neg (by omega)]
theorem q_mdl_Ii {m : k_S} {r : Nat} {o b d : Int32} {l i k : Nat} (h : k ≠ r ∧ l ≠ 1) : k_I (q_mdl m r o b d) l i k = k_I m l i k := by
  rw [q_mdl_I, if_neg (by omega), if_neg (by omega), if_neg (by omega), if_neg (by omega), if_neg (by omega), if_neg (by omega), if_neg (by omega)]
theorem q_mdl_r {m : k_S} {r : Nat} {o b d : Int32} : k_I (q_mdl m r o b d) 38 0 r = 100 ∧ k_I (q_mdl m r o b d) 39 0 r = o ∧ k_I (q_mdl m r o b d) 35 0 r = b ∧ k_I (q_mdl m r o b d) 34 0 r = k_I m 1 0 29 ∧ k_I (q_mdl m r o b d) 1 0 29 = k_I m 1 0 29 + 1 ∧ (o = 103 → k_I (q_mdl m r o b d) 36 0 r = k_I m 1 0 14 ∧ k_I (q_mdl m r o b d) 37 0 r = k_I m 1 0 14 + d) := by
  refine ⟨?_, ?_, ?_, ?_, ?_, fun e => ⟨?_, ?_⟩⟩
  · rw [q_mdl_I]; simp
  · rw [q_mdl_I]; simp
  · rw [q_mdl_I]; simp
  · rw [q_mdl_I]; simp
  · rw [q_mdl_I]; simp
  · rw [q_mdl_I]; simp [e]
  · rw [q_mdl_I]; simp [e]
theorem q_mdl_P {m : k_S} {r : Nat} {o b d : Int32} {l i k : Nat} : k_P (q_mdl m r o b d) l i k = k_P m l i k := by
  unfold q_mdl q_mdb
  split
  · rw [q_PI, q_PI, q_PI, q_PI, q_PI, q_PI, q_PI]
  · rw [q_PI, q_PI, q_PI, q_PI, q_PI]
theorem q_mdl_J {m : k_S} {r : Nat} {o b d : Int32} {l i k : Nat} : k_J (q_mdl m r o b d) l i k = k_J m l i k := by
  unfold q_mdl q_mdb
  split
  · rw [q_JI, q_JI, q_JI, q_JI, q_JI, q_JI, q_JI]
  · rw [q_JI, q_JI, q_JI, q_JI, q_JI]
theorem q_mdl_M {R U B N : Nat} {m : k_S} (h : q_M R U B N m) {r : Nat} {o b d : Int32} : q_M R U B N (q_mdl m r o b d) :=
  h.mv (fun _ => q_mdl_P) (fun _ => q_mdl_P) (q_mdl_Io (by decide)) (q_mdl_Io (by decide)) (q_mdl_Io (by decide)) (q_mdl_Io (by decide))
theorem q_mdl_sh {m : k_S} {r : Nat} {o b d : Int32} : q_sh m (q_mdl m r o b d) := by
  unfold q_mdl q_mdb
  split
  · exact ((((((q_sh.rf.uI (by omega)).uI (by omega)).uI (by omega)).uI (by omega)).uI (by omega)).uI (by omega)).uI (by omega)
  · exact ((((q_sh.rf.uI (by omega)).uI (by omega)).uI (by omega)).uI (by omega)).uI (by omega)
theorem q_stl_sm {σ : k_S} {r u : Nat} {o sF sA d : Int32} : q_sm σ (q_stl σ r u o sF sA d) := by
  have h1 : q_sm σ (q_stb σ r o sF sA) := by
    unfold q_stb q_min q_ent
    exact ((((((((((q_sm.rf.uI (by omega)).uI (by omega)).uI (by omega)).new (by omega)).uP (by omega)).uI (by omega)).uI (by omega)).uI (by omega)).ladd (by omega)).uI (by omega))
  unfold q_stl
  split
  · refine h1.tr ?_
    unfold q_san
    exact (((((q_sm.rf.new (by omega)).uP (by omega)).uI (by omega)).uI (by omega)).uP (by omega)).ladd (by omega)
  · exact h1
