/-! ===== THE PURE PART: file (written by wip/whole/gen82.py) ===== -/
def q_nw5 (σ : k_S) (n : Int32) (u1 u2 : Nat) (a3 a4 d : Int32) : k_S := k_ladd (k_uI (k_uI (k_uP (k_new (k_uI (k_uI (k_uI (k_uP (k_uP (k_uI (k_new σ 5) 5 (k_N σ 5) 0 n) 5 (k_N σ 5) 1 (some u1)) 5 (k_N σ 5) 2 (some u2)) 5 (k_N σ 5) 3 a3) 5 (k_N σ 5) 4 a4) 5 (k_N σ 5) 5 d) 9) 5 (k_N σ 5) 6 (some (k_N (k_uI (k_uI (k_uI (k_uP (k_uP (k_uI (k_new σ 5) 5 (k_N σ 5) 0 n) 5 (k_N σ 5) 1 (some u1)) 5 (k_N σ 5) 2 (some u2)) 5 (k_N σ 5) 3 a3) 5 (k_N σ 5) 4 a4) 5 (k_N σ 5) 5 d) 9))) 5 (k_N σ 5) 7 111) 5 (k_N σ 5) 11 45) 15 (k_N σ 5)
theorem q_nw5_al {σ : k_S} {n : Int32} {u1 u2 : Nat} {a3 a4 d : Int32} {l : Nat} (h5 : l ≠ 5) (h9 : l ≠ 9) (h15 : l ≠ 15) : q_al l σ (q_nw5 σ n u1 u2 a3 a4 d) := by
  unfold q_nw5
  exact ((((((((((((q_al.rf.new h5).uI h5).uP h5).uP h5).uI h5).uI h5).uI h5).new h9).uP h5).uI h5).uI h5)).ladd h15
theorem q_nw5_Z {σ : k_S} {n : Int32} {u1 u2 : Nat} {a3 a4 d : Int32} : k_Z (q_nw5 σ n u1 u2 a3 a4 d) 15 = k_Z σ 15 + 1 := by
  simp [q_nw5, q_II, q_IJ, q_ID, q_IP, q_In, q_Ia, q_JI, q_JJ, q_JD, q_JP, q_Jn, q_Ja, q_PI, q_PJ, q_PD, q_PP, q_Pn, q_Pa, q_NI, q_NJ, q_ND, q_NP, q_Nn, q_Na, q_ZI, q_ZJ, q_ZD, q_ZP, q_Zn, q_Za]
theorem q_nw5_5 {σ : k_S} {n : Int32} {u1 u2 : Nat} {a3 a4 d : Int32} {i k : Nat} (hi : i ≠ k_N σ 5) : k_I (q_nw5 σ n u1 u2 a3 a4 d) 5 i k = k_I σ 5 i k ∧ k_P (q_nw5 σ n u1 u2 a3 a4 d) 5 i k = k_P σ 5 i k := by
  simp [q_nw5, q_II, q_IJ, q_ID, q_IP, q_In, q_Ia, q_JI, q_JJ, q_JD, q_JP, q_Jn, q_Ja, q_PI, q_PJ, q_PD, q_PP, q_Pn, q_Pa, q_NI, q_NJ, q_ND, q_NP, q_Nn, q_Na, q_ZI, q_ZJ, q_ZD, q_ZP, q_Zn, q_Za, hi]
theorem q_nw5_9 {σ : k_S} {n : Int32} {u1 u2 : Nat} {a3 a4 d : Int32} {i k : Nat} : k_I (q_nw5 σ n u1 u2 a3 a4 d) 9 i k = if i = k_N σ 9 then 0 else k_I σ 9 i k := by
  simp [q_nw5, q_II, q_IJ, q_ID, q_IP, q_In, q_Ia, q_JI, q_JJ, q_JD, q_JP, q_Jn, q_Ja, q_PI, q_PJ, q_PD, q_PP, q_Pn, q_Pa, q_NI, q_NJ, q_ND, q_NP, q_Nn, q_Na, q_ZI, q_ZJ, q_ZD, q_ZP, q_Zn, q_Za]
theorem q_nw5_n {σ : k_S} {n : Int32} {u1 u2 : Nat} {a3 a4 d : Int32} : (k_I (q_nw5 σ n u1 u2 a3 a4 d) 5 (k_N σ 5) 0 = n ∧ k_I (q_nw5 σ n u1 u2 a3 a4 d) 5 (k_N σ 5) 3 = a3 ∧ k_I (q_nw5 σ n u1 u2 a3 a4 d) 5 (k_N σ 5) 4 = a4 ∧ k_I (q_nw5 σ n u1 u2 a3 a4 d) 5 (k_N σ 5) 5 = d ∧ k_I (q_nw5 σ n u1 u2 a3 a4 d) 5 (k_N σ 5) 7 = 111 ∧ k_I (q_nw5 σ n u1 u2 a3 a4 d) 5 (k_N σ 5) 10 = 0 ∧ k_I (q_nw5 σ n u1 u2 a3 a4 d) 5 (k_N σ 5) 11 = 45 ∧ k_I (q_nw5 σ n u1 u2 a3 a4 d) 5 (k_N σ 5) 12 = 0) ∧ k_P (q_nw5 σ n u1 u2 a3 a4 d) 5 (k_N σ 5) 1 = some u1 ∧ k_P (q_nw5 σ n u1 u2 a3 a4 d) 5 (k_N σ 5) 2 = some u2 ∧ k_P (q_nw5 σ n u1 u2 a3 a4 d) 5 (k_N σ 5) 6 = some (k_N σ 9) ∧ k_P (q_nw5 σ n u1 u2 a3 a4 d) 5 (k_N σ 5) 8 = none ∧ k_P (q_nw5 σ n u1 u2 a3 a4 d) 5 (k_N σ 5) 9 = none := by
  simp [q_nw5, q_II, q_IJ, q_ID, q_IP, q_In, q_Ia, q_JI, q_JJ, q_JD, q_JP, q_Jn, q_Ja, q_PI, q_PJ, q_PD, q_PP, q_Pn, q_Pa, q_NI, q_NJ, q_ND, q_NP, q_Nn, q_Na, q_ZI, q_ZJ, q_ZD, q_ZP, q_Zn, q_Za]
theorem q_nw5_H {σ : k_S} (h : q_H σ) (hZ : k_Z σ 15 < 20) {n : Int32} {u1 u2 : Nat} {a3 a4 d : Int32} : q_H (q_nw5 σ n u1 u2 a3 a4 d) := by
  have n5 := h.n5
  have n9 := h.n9
  have A : ∀ l, l ≠ 5 → l ≠ 9 → l ≠ 15 → q_al l σ (q_nw5 σ n u1 u2 a3 a4 d) := fun l h5 h9 h15 => q_nw5_al h5 h9 h15
  have nn : ∀ l, k_N (q_nw5 σ n u1 u2 a3 a4 d) l = if l = 9 then k_N σ 9 + 1 else if l = 5 then k_N σ 5 + 1 else k_N σ l := fun l => by simp [q_nw5, q_II, q_IJ, q_ID, q_IP, q_In, q_Ia, q_JI, q_JJ, q_JD, q_JP, q_Jn, q_Ja, q_PI, q_PJ, q_PD, q_PP, q_Pn, q_Pa, q_NI, q_NJ, q_ND, q_NP, q_Nn, q_Na, q_ZI, q_ZJ, q_ZD, q_ZP, q_Zn, q_Za]
  obtain ⟨h1, h2, h3, h4, h5, h6, h7, h8, h9⟩ := h
  have P0 := (A 0 (by decide) (by decide) (by decide)).2.1
  have P8 := (A 8 (by decide) (by decide) (by decide)).2.1
  have Z := fun l h5 h9 h15 => (A l h5 h9 h15).2.2
  unfold q_H
  rw [P0, P0, P0, P0, P0, P0, P0, P0, P8, P8, P8, P8, Z 12 (by decide) (by decide) (by decide), Z 13 (by decide) (by decide) (by decide), Z 14 (by decide) (by decide) (by decide), Z 16 (by decide) (by decide) (by decide), Z 17 (by decide) (by decide) (by decide), q_nw5_Z, nn, nn, nn, nn, nn, nn, nn]
  refine ⟨h1, h2, h3, h4, h5, ⟨by omega, ?_, ?_⟩, h7, h8, fun l j c1 c2 c3 => ?_⟩
  · simp
    omega
  · simp
    omega
  · by_cases e : l = 15
    · subst e
      rw [q_nw5_Z] at c3
      have e15 : k_P (q_nw5 σ n u1 u2 a3 a4 d) 15 0 j = if j = k_Z σ 15 then some (k_N σ 5) else k_P σ 15 0 j := by simp [q_nw5, q_II, q_IJ, q_ID, q_IP, q_In, q_Ia, q_JI, q_JJ, q_JD, q_JP, q_Jn, q_Ja, q_PI, q_PJ, q_PD, q_PP, q_Pn, q_Pa, q_NI, q_NJ, q_ND, q_NP, q_Nn, q_Na, q_ZI, q_ZJ, q_ZD, q_ZP, q_Zn, q_Za]
      rw [e15]
      by_cases e2 : j = k_Z σ 15
      · rw [if_pos e2, e2, n5]
      · rw [if_neg e2]
        exact h9 15 j c1 c2 (by omega)
    · rw [Z l (by omega) (by omega) e] at c3
      rw [(A l (by omega) (by omega) e).2.1]
      exact h9 l j c1 c2 c3
def q_mw5 (m : k_S) (N : Nat) (a1 a2 a3 a4 d : Int32) : k_S := k_uI (k_uI (k_uI (k_uI (k_uI (k_uI (k_uI (k_uI m 29 0 N a1) 30 0 N a2) 31 0 N a3) 32 0 N a4) 33 0 N d) 38 0 N 111) 40 0 N 45) 1 0 28 (nI (N + 1))
theorem q_mw5_al {m : k_S} {N : Nat} {a1 a2 a3 a4 d : Int32} {l : Nat} (h : ¬ (29 ≤ l ∧ l ≤ 33)) (h38 : l ≠ 38) (h40 : l ≠ 40) (h1 : l ≠ 1) : q_al l m (q_mw5 m N a1 a2 a3 a4 d) := by
  unfold q_mw5
  exact (((((((q_al.rf.uI (by omega)).uI (by omega)).uI (by omega)).uI (by omega)).uI (by omega)).uI (by omega)).uI (by omega)).uI (by omega)
theorem q_mw5_i {m : k_S} {N : Nat} {a1 a2 a3 a4 d : Int32} {l i : Nat} (h1 : l ≠ 1) (hi : i ≠ N) : k_I (q_mw5 m N a1 a2 a3 a4 d) l 0 i = k_I m l 0 i := by
  unfold q_mw5
  simp [q_II, q_IJ, q_ID, q_IP, q_In, q_Ia, q_JI, q_JJ, q_JD, q_JP, q_Jn, q_Ja, q_PI, q_PJ, q_PD, q_PP, q_Pn, q_Pa, q_NI, q_NJ, q_ND, q_NP, q_Nn, q_Na, q_ZI, q_ZJ, q_ZD, q_ZP, q_Zn, q_Za, hi, h1]
theorem q_mw5_n {m : k_S} {N : Nat} {a1 a2 a3 a4 d : Int32} : k_I (q_mw5 m N a1 a2 a3 a4 d) 29 0 N = a1 ∧ k_I (q_mw5 m N a1 a2 a3 a4 d) 30 0 N = a2 ∧ k_I (q_mw5 m N a1 a2 a3 a4 d) 31 0 N = a3 ∧ k_I (q_mw5 m N a1 a2 a3 a4 d) 32 0 N = a4 ∧ k_I (q_mw5 m N a1 a2 a3 a4 d) 33 0 N = d ∧ k_I (q_mw5 m N a1 a2 a3 a4 d) 38 0 N = 111 ∧ k_I (q_mw5 m N a1 a2 a3 a4 d) 40 0 N = 45 := by
  unfold q_mw5
  simp [q_II, q_IJ, q_ID, q_IP, q_In, q_Ia, q_JI, q_JJ, q_JD, q_JP, q_Jn, q_Ja, q_PI, q_PJ, q_PD, q_PP, q_Pn, q_Pa, q_NI, q_NJ, q_ND, q_NP, q_Nn, q_Na, q_ZI, q_ZJ, q_ZD, q_ZP, q_Zn, q_Za]
theorem q_mw5_1 {m : k_S} {N : Nat} {a1 a2 a3 a4 d : Int32} {k : Nat} (hk : k ≠ 28) : k_I (q_mw5 m N a1 a2 a3 a4 d) 1 0 k = k_I m 1 0 k := by
  unfold q_mw5
  simp [q_II, q_IJ, q_ID, q_IP, q_In, q_Ia, q_JI, q_JJ, q_JD, q_JP, q_Jn, q_Ja, q_PI, q_PJ, q_PD, q_PP, q_Pn, q_Pa, q_NI, q_NJ, q_ND, q_NP, q_Nn, q_Na, q_ZI, q_ZJ, q_ZD, q_ZP, q_Zn, q_Za, hk]
/-- a report is filed, no bot yet -/
theorem q_file_I {T : Nat} {σ m : k_S} (h : q_I T σ m) (hN : k_Z σ 15 < 20) {u1 u2 e f : Nat} (hu1 : u1 < k_Z σ 13) (hu2 : u2 < k_Z σ 13) (he : e ≤ 100) : q_I T (q_nw5 σ (nI (k_Z σ 15)) u1 u2 (nI f) (nI e) (nI T)) (q_mw5 m (k_Z σ 15) (nI u1) (nI u2) (nI f) (nI e) (nI T)) := by
  have n5 := h.H.n5
  have n9 := h.H.n9
  have A : ∀ l, l ≠ 5 → l ≠ 9 → l ≠ 15 → q_al l σ (q_nw5 σ (nI (k_Z σ 15)) u1 u2 (nI f) (nI e) (nI T)) := fun l h5 h9 h15 => q_nw5_al h5 h9 h15
  have B : ∀ l, ¬ (29 ≤ l ∧ l ≤ 33) → l ≠ 38 → l ≠ 40 → l ≠ 1 → q_al l m (q_mw5 m (k_Z σ 15) (nI u1) (nI u2) (nI f) (nI e) (nI T)) := fun l a b c d => q_mw5_al a b c d
  have Bi : ∀ l i, l ≠ 1 → i ≠ k_Z σ 15 → k_I (q_mw5 m (k_Z σ 15) (nI u1) (nI u2) (nI f) (nI e) (nI T)) l 0 i = k_I m l 0 i := fun l i a b => q_mw5_i a b
  have B1 : ∀ k, k ≠ 28 → k_I (q_mw5 m (k_Z σ 15) (nI u1) (nI u2) (nI f) (nI e) (nI T)) 1 0 k = k_I m 1 0 k := fun k a => q_mw5_1 a
  have B1n : k_I (q_mw5 m (k_Z σ 15) (nI u1) (nI u2) (nI f) (nI e) (nI T)) 1 0 28 = nI (k_Z σ 15 + 1) := by unfold q_mw5; rw [q_II, if_pos ⟨rfl, rfl, rfl⟩]
  have BP : ∀ l k, k_P (q_mw5 m (k_Z σ 15) (nI u1) (nI u2) (nI f) (nI e) (nI T)) l 0 k = k_P m l 0 k := fun l k => by unfold q_mw5; simp [q_II, q_IJ, q_ID, q_IP, q_In, q_Ia, q_JI, q_JJ, q_JD, q_JP, q_Jn, q_Ja, q_PI, q_PJ, q_PD, q_PP, q_Pn, q_Pa, q_NI, q_NJ, q_ND, q_NP, q_Nn, q_Na, q_ZI, q_ZJ, q_ZD, q_ZP, q_Zn, q_Za]
  have BJ : k_J (q_mw5 m (k_Z σ 15) (nI u1) (nI u2) (nI f) (nI e) (nI T)) 1 0 32 = k_J m 1 0 32 := by unfold q_mw5; simp [q_II, q_IJ, q_ID, q_IP, q_In, q_Ia, q_JI, q_JJ, q_JD, q_JP, q_Jn, q_Ja, q_PI, q_PJ, q_PD, q_PP, q_Pn, q_Pa, q_NI, q_NJ, q_ND, q_NP, q_Nn, q_Na, q_ZI, q_ZJ, q_ZD, q_ZP, q_Zn, q_Za]
  obtain ⟨v29, v30, v31, v32, v33, v38, v40⟩ := q_mw5_n (m := m) (N := k_Z σ 15) (a1 := nI u1) (a2 := nI u2) (a3 := nI f) (a4 := nI e) (d := nI T)
  obtain ⟨⟨w0, w3, w4, w5, w7, w10, w11, w12⟩, x1, x2, x6, x8, x9⟩ := q_nw5_n (σ := σ) (n := nI (k_Z σ 15)) (u1 := u1) (u2 := u2) (a3 := nI f) (a4 := nI e) (d := nI T)
  have R5 : ∀ i k, i ≠ k_Z σ 15 → k_I (q_nw5 σ (nI (k_Z σ 15)) u1 u2 (nI f) (nI e) (nI T)) 5 i k = k_I σ 5 i k ∧ k_P (q_nw5 σ (nI (k_Z σ 15)) u1 u2 (nI f) (nI e) (nI T)) 5 i k = k_P σ 5 i k := fun i k hi => q_nw5_5 (by omega)
  have R9 : ∀ i k, k_I (q_nw5 σ (nI (k_Z σ 15)) u1 u2 (nI f) (nI e) (nI T)) 9 i k = if i = k_N σ 9 then 0 else k_I σ 9 i k := fun i k => q_nw5_9
  have Z15 : k_Z (q_nw5 σ (nI (k_Z σ 15)) u1 u2 (nI f) (nI e) (nI T)) 15 = k_Z σ 15 + 1 := q_nw5_Z
  have hH := q_nw5_H h.H hN (n := nI (k_Z σ 15)) (u1 := u1) (u2 := u2) (a3 := nI f) (a4 := nI e) (d := nI T)
  rw [n5] at w0 w3 w4 w5 w7 w10 w11 w12 x1 x2 x6 x8 x9
  rw [n9] at x6
  generalize q_nw5 σ (nI (k_Z σ 15)) u1 u2 (nI f) (nI e) (nI T) = φ at *
  generalize q_mw5 m (k_Z σ 15) (nI u1) (nI u2) (nI f) (nI e) (nI T) = μ at *
  have zz : ∀ l, l ≠ 5 → l ≠ 9 → l ≠ 15 → k_Z φ l = k_Z σ l := fun l a b c => (A l a b c).2.2
  refine ⟨hH, ?_, ?_, h.Ru.ag (fun l hl => A l (by omega) (by omega) (by omega)) (fun l hl => B l (by omega) (by omega) (by omega) (by omega)), h.Us.ag (fun l hl => A l (by omega) (by omega) (by omega)) (fun l hl => B l (by omega) (by omega) (by omega) (by omega)), h.Bo.ag (fun l hl => A l (by omega) (by omega) (by omega)) (fun l hl => B l (by omega) (by omega) (by omega) (by omega)), ?_, ?_, ?_, h.Sn.ag (Nat.le_refl _) (fun l hl => A l (by omega) (by omega) (by omega)), ?_, ?_, h.Sj.ag (fun l hl => A l (by omega) (by omega) (by omega)) BJ, ?_, ?_, ?_⟩
  · rw [zz 12 (by decide) (by decide) (by decide), zz 13 (by decide) (by decide) (by decide), zz 14 (by decide) (by decide) (by decide), Z15]
    have b4 := h.M.bN
    exact (h.M.incN (by omega)).mv (fun k => by rw [BP, q_PI]) (fun k => by rw [BP, q_PI]) (by rw [B1 10 (by decide), q_II, if_neg (by omega)]) (by rw [B1 11 (by decide), q_II, if_neg (by omega)]) (by rw [B1 12 (by decide), q_II, if_neg (by omega)]) (by rw [B1n, q_II, if_pos ⟨rfl, rfl, rfl⟩])
  · exact q_sc h.Td ((A 0 (by decide) (by decide) (by decide)).1 0 8) (B1 14 (by decide)) ((A 0 (by decide) (by decide) (by decide)).1 0 9) (B1 13 (by decide))
  · intro i j hi hj
    have h0 := h.Vo i j hi hj
    rw [Z15, zz 13 (by decide) (by decide) (by decide), R9, n9, (B 42 (by decide) (by decide) (by decide) (by decide)).1]
    refine ⟨fun q => ?_, fun q => h0.2 (by omega)⟩
    by_cases e1 : i = k_Z σ 15
    · rw [if_pos e1, h0.2 (Or.inr (by omega))]
    · rw [if_neg e1]
      exact h0.1 (by omega)
  · intro i hi
    rw [Z15] at hi
    by_cases e1 : i = k_Z σ 15
    · subst e1
      refine ⟨⟨w0, ⟨u1, by rw [zz 13 (by decide) (by decide) (by decide)]; exact hu1, x1, v29⟩, ⟨u2, by rw [zz 13 (by decide) (by decide) (by decide)]; exact hu2, x2, v30⟩, by rw [w3, v31], by rw [w4, v32], ⟨e, he, v32⟩, by rw [w5, v33], ⟨T, Nat.le_refl _, v33⟩, x6, by rw [w7, v38], by rw [w11, v40]⟩, Or.inl ⟨v38, x8, x9, v40, w10, w12, ?_⟩⟩
      rw [(A 10 (by decide) (by decide) (by decide)).1]
      exact h.Ro _ (Nat.le_refl _) hN
    · exact ⟨(h.rp (by omega)).ag (Nat.le_refl _) (Nat.le_of_eq (zz 13 (by decide) (by decide) (by decide)).symm) (fun k => (R5 i k e1).1) (fun k => (R5 i k e1).2) (fun l hl => Bi l i (by omega) e1), (h.rs (by omega)).ag (Nat.le_of_eq (zz 14 (by decide) (by decide) (by decide)).symm) (fun k => (R5 i k e1).1) (fun k => (R5 i k e1).2) ((A 10 (by decide) (by decide) (by decide)).1 0 i) ((A 11 (by decide) (by decide) (by decide)).1 0 i) (fun l hl => Bi l i (by omega) e1)⟩
  · intro i h1 h2
    rw [Z15] at h1
    rw [(A 10 (by decide) (by decide) (by decide)).1]
    exact h.Ro i (by omega) h2
  · intro i hi s1 s2
    rw [Z15] at hi
    by_cases e1 : i = k_Z σ 15
    · rw [e1, v38] at s1
      exact absurd s1 (by decide)
    · rw [Bi 38 i (by decide) e1] at s1
      rw [Bi 39 i (by decide) e1] at s2
      obtain ⟨j, hj, g1, g2, g3, g4⟩ := h.Sr i (by omega) s1 s2
      refine ⟨j, by rw [zz 16 (by decide) (by decide) (by decide)]; exact hj, by rw [(R5 i 9 e1).2]; exact g1, ?_, ?_, ?_⟩
      · rw [(A 6 (by decide) (by decide) (by decide)).2.1, (R5 i 2 e1).2]; exact g2
      · rw [(A 6 (by decide) (by decide) (by decide)).1, Bi 36 i (by decide) e1]; exact g3
      · rw [(A 6 (by decide) (by decide) (by decide)).1, Bi 37 i (by decide) e1]; exact g4
  · intro op hc g hg
    rw [zz 16 (by decide) (by decide) (by decide)] at hg ⊢
    rw [Z15]
    rw [h.Sd op hc g (fun j hj hd => hg j hj (by rw [(A 6 (by decide) (by decide) (by decide)).1]; exact hd))]
    have nw : ¬ (k_I μ 38 0 (k_Z σ 15) = 100 ∧ k_I μ 39 0 (k_Z σ 15) = 103) := fun q => by
      rw [v38] at q
      exact absurd q.1 (by decide)
    show _ = op (q_fd op 0 _ (k_Z σ 15)) (if k_I μ 38 0 (k_Z σ 15) = 100 ∧ k_I μ 39 0 (k_Z σ 15) = 103 then g ((k_P φ 5 (k_Z σ 15) 9).getD 0) else 0)
    rw [if_neg nw, hc.2.2]
    refine q_fd_c (fun i hi => ?_)
    have e1 : i ≠ k_Z σ 15 := by omega
    rw [Bi 38 i (by decide) e1, Bi 39 i (by decide) e1, (R5 i 9 e1).2]
  · obtain ⟨t1, t2⟩ := h.Ct
    unfold q_Ct
    rw [B1 30 (by decide), B1 31 (by decide), t1, t2, Z15]
    constructor
    · show _ = q_sI _ (k_Z σ 15) + (if k_I μ 38 0 (k_Z σ 15) = 100 then (if k_I μ 40 0 (k_Z σ 15) = 45 then (0 : Int32) else 1) else 0)
      rw [v38, if_neg (c := (111 : Int32) = 100) (by decide), Int32.add_zero]
      refine q_fd_c (fun i hi => ?_)
      have e1 : i ≠ k_Z σ 15 := by omega
      rw [Bi 38 i (by decide) e1, Bi 40 i (by decide) e1]
    · show _ = q_sI _ (k_Z σ 15) + q_mrv μ (k_Z σ 15)
      have : q_mrv μ (k_Z σ 15) = 0 := by
        unfold q_mrv
        rw [v38, if_neg (by decide)]
      rw [this, Int32.add_zero]
      refine q_fd_c (fun i hi => ?_)
      have e1 : i ≠ k_Z σ 15 := by omega
      unfold q_mrv
      rw [Bi 38 i (by decide) e1, Bi 40 i (by decide) e1, Bi 39 i (by decide) e1]
  · obtain ⟨⟨D, d1, d2⟩, d3, d4, d5⟩ := h.De
    unfold q_De
    rw [zz 16 (by decide) (by decide) (by decide), zz 17 (by decide) (by decide) (by decide), B1 29 (by decide), (A 8 (by decide) (by decide) (by decide)).1, Z15]
    refine ⟨⟨D, d1, d2⟩, d3, d4, ?_⟩
    show _ = q_sN _ (k_Z σ 15) + q_ec (k_I μ 38 0 (k_Z σ 15)) (k_I μ 40 0 (k_Z σ 15))
    rw [v38, v40, show q_ec 111 45 = 0 from rfl, Nat.add_zero, d5]
    refine q_fd_c (fun i hi => ?_)
    have e1 : i ≠ k_Z σ 15 := by omega
    rw [Bi 38 i (by decide) e1, Bi 40 i (by decide) e1]
  · obtain ⟨hE, hmm, hk⟩ := h.Mi
    obtain ⟨C, Cm⟩ := q_hs_c (a := σ) (a' := φ) (n := k_Z σ 17) h.H.z15 hE (fun j hj => ⟨(A 7 (by decide) (by decide) (by decide)).2.1 j 0, fun k => (A 7 (by decide) (by decide) (by decide)).1 j k⟩) (fun i hi => by
      have e1 : i ≠ k_Z σ 15 := by omega
      refine ⟨?_, (R5 i 3 e1).1⟩
      have ehr : q_hr φ i = q_hr σ i := by
        unfold q_hr q_ho
        simp only [(A 2 (by decide) (by decide) (by decide)).1, (R5 i _ e1).1, zz 12 (by decide) (by decide) (by decide)]
      rw [ehr]
      exact congrArg (q_cl (q_hr σ i).1) (funext fun j => (A 2 (by decide) (by decide) (by decide)).1 j 1))
    refine ⟨?_, ?_, fun k hk2 => ?_⟩
    · intro j hj
      rw [zz 17 (by decide) (by decide) (by decide)] at hj
      obtain ⟨r, r1, r2⟩ := hE j hj
      exact ⟨r, by omega, by rw [(A 7 (by decide) (by decide) (by decide)).2.1]; exact r2⟩
    · rw [zz 17 (by decide) (by decide) (by decide), ← Cm, hmm, (A 8 (by decide) (by decide) (by decide)).1]
    · obtain ⟨c1, c2, c3, c4⟩ := C k hk2
      obtain ⟨k1, k2⟩ := hk k hk2
      rw [zz 17 (by decide) (by decide) (by decide), ← c1, (A 10 (by decide) (by decide) (by decide)).1, (A 11 (by decide) (by decide) (by decide)).1]
      exact ⟨k1, fun q => by rw [← c3 (by rw [k1]; exact q)]; exact k2 q⟩
