/-! ===== THE PURE PART: people, bots, rules (written by wip/whole/gen74.py) ===== -/
theorem q_M.incR {R U B N : Nat} {m : k_S} (h : q_M R U B N m) (hb : R + 1 ≤ 12) : q_M (R + 1) U B N (k_uI m 1 0 10 (nI (R + 1))) := by
  obtain ⟨hp, ⟨h1, h2, h3, h4⟩, b1, b2, b3, b4⟩ := h
  exact ⟨hp, ⟨by rw [q_II, if_pos ⟨rfl, rfl, rfl⟩], by rw [q_II, if_neg (by omega)]; exact h2, by rw [q_II, if_neg (by omega)]; exact h3, by rw [q_II, if_neg (by omega)]; exact h4⟩, hb, b2, b3, b4⟩
theorem q_M.incU {R U B N : Nat} {m : k_S} (h : q_M R U B N m) (hb : U + 1 ≤ 8) : q_M R (U + 1) B N (k_uI m 1 0 11 (nI (U + 1))) := by
  obtain ⟨hp, ⟨h1, h2, h3, h4⟩, b1, b2, b3, b4⟩ := h
  exact ⟨hp, ⟨by rw [q_II, if_neg (by omega)]; exact h1, by rw [q_II, if_pos ⟨rfl, rfl, rfl⟩], by rw [q_II, if_neg (by omega)]; exact h3, by rw [q_II, if_neg (by omega)]; exact h4⟩, b1, hb, b3, b4⟩
theorem q_M.incB {R U B N : Nat} {m : k_S} (h : q_M R U B N m) (hb : B + 1 ≤ 4) : q_M R U (B + 1) N (k_uI m 1 0 12 (nI (B + 1))) := by
  obtain ⟨hp, ⟨h1, h2, h3, h4⟩, b1, b2, b3, b4⟩ := h
  exact ⟨hp, ⟨by rw [q_II, if_neg (by omega)]; exact h1, by rw [q_II, if_neg (by omega)]; exact h2, by rw [q_II, if_pos ⟨rfl, rfl, rfl⟩], by rw [q_II, if_neg (by omega)]; exact h4⟩, b1, b2, hb, b4⟩
theorem q_M.incN {R U B N : Nat} {m : k_S} (h : q_M R U B N m) (hb : N + 1 ≤ 20) : q_M R U B (N + 1) (k_uI m 1 0 28 (nI (N + 1))) := by
  obtain ⟨hp, ⟨h1, h2, h3, h4⟩, b1, b2, b3, b4⟩ := h
  exact ⟨hp, ⟨by rw [q_II, if_neg (by omega)]; exact h1, by rw [q_II, if_neg (by omega)]; exact h2, by rw [q_II, if_neg (by omega)]; exact h3, by rw [q_II, if_pos ⟨rfl, rfl, rfl⟩]⟩, b1, b2, b3, hb⟩
theorem q_room {n b : Nat} (σ : k_S) (h : n < b) (hb : b ≤ 200) : f_X7_requireRoom σ (nI n) (nI b) = some (.inl ()) := by
  unfold f_X7_requireRoom
  rw [if_pos (nI_lt h (by omega))]
theorem q_roomb {n : Nat} (σ : k_S) (hb : n ≤ 200) : f_X7_requireRoom σ (nI n) (nI n) = some (.inr "java/lang/IllegalStateException") := by
  unfold f_X7_requireRoom
  rw [if_neg (nI_nlt (Nat.le_refl _) (by omega))]
def q_nw3 (σ : k_S) (w : Int32) : k_S := k_ladd (k_uI (k_new σ 3) 3 (k_N σ 3) 0 w) 13 (k_N σ 3)
theorem q_nw3_Z {σ : k_S} {w : Int32} {l : Nat} (hl : l ≠ 3) : k_Z (q_nw3 σ w) l = if l = 13 then k_Z σ 13 + 1 else k_Z σ l := by
  by_cases e : l = 13
  · subst e
    simp [q_nw3, q_II, q_IJ, q_ID, q_IP, q_In, q_Ia, q_JI, q_JJ, q_JD, q_JP, q_Jn, q_Ja, q_PI, q_PJ, q_PD, q_PP, q_Pn, q_Pa, q_NI, q_NJ, q_ND, q_NP, q_Nn, q_Na, q_ZI, q_ZJ, q_ZD, q_ZP, q_Zn, q_Za]
  · simp [q_nw3, q_II, q_IJ, q_ID, q_IP, q_In, q_Ia, q_JI, q_JJ, q_JD, q_JP, q_Jn, q_Ja, q_PI, q_PJ, q_PD, q_PP, q_Pn, q_Pa, q_NI, q_NJ, q_ND, q_NP, q_Nn, q_Na, q_ZI, q_ZJ, q_ZD, q_ZP, q_Zn, q_Za, e, hl]
theorem q_nw3_H {σ : k_S} (h : q_H σ) (hZ : k_Z σ 13 < 8) {w : Int32} : q_H (q_nw3 σ w) := by
  have n7 := h.n3
  obtain ⟨h1, h2, h3, h4, h5, h6, h7, h8, h9⟩ := h
  refine ⟨by simpa [q_nw3, q_II, q_IJ, q_ID, q_IP, q_In, q_Ia, q_JI, q_JJ, q_JD, q_JP, q_Jn, q_Ja, q_PI, q_PJ, q_PD, q_PP, q_Pn, q_Pa, q_NI, q_NJ, q_ND, q_NP, q_Nn, q_Na, q_ZI, q_ZJ, q_ZD, q_ZP, q_Zn, q_Za] using h1, by simpa [q_nw3, q_II, q_IJ, q_ID, q_IP, q_In, q_Ia, q_JI, q_JJ, q_JD, q_JP, q_Jn, q_Ja, q_PI, q_PJ, q_PD, q_PP, q_Pn, q_Pa, q_NI, q_NJ, q_ND, q_NP, q_Nn, q_Na, q_ZI, q_ZJ, q_ZD, q_ZP, q_Zn, q_Za] using h2, by simpa [q_nw3, q_II, q_IJ, q_ID, q_IP, q_In, q_Ia, q_JI, q_JJ, q_JD, q_JP, q_Jn, q_Ja, q_PI, q_PJ, q_PD, q_PP, q_Pn, q_Pa, q_NI, q_NJ, q_ND, q_NP, q_Nn, q_Na, q_ZI, q_ZJ, q_ZD, q_ZP, q_Zn, q_Za] using h3, ?_, by simpa [q_nw3, q_II, q_IJ, q_ID, q_IP, q_In, q_Ia, q_JI, q_JJ, q_JD, q_JP, q_Jn, q_Ja, q_PI, q_PJ, q_PD, q_PP, q_Pn, q_Pa, q_NI, q_NJ, q_ND, q_NP, q_Nn, q_Na, q_ZI, q_ZJ, q_ZD, q_ZP, q_Zn, q_Za] using h5, by simpa [q_nw3, q_II, q_IJ, q_ID, q_IP, q_In, q_Ia, q_JI, q_JJ, q_JD, q_JP, q_Jn, q_Ja, q_PI, q_PJ, q_PD, q_PP, q_Pn, q_Pa, q_NI, q_NJ, q_ND, q_NP, q_Nn, q_Na, q_ZI, q_ZJ, q_ZD, q_ZP, q_Zn, q_Za] using h6, by simpa [q_nw3, q_II, q_IJ, q_ID, q_IP, q_In, q_Ia, q_JI, q_JJ, q_JD, q_JP, q_Jn, q_Ja, q_PI, q_PJ, q_PD, q_PP, q_Pn, q_Pa, q_NI, q_NJ, q_ND, q_NP, q_Nn, q_Na, q_ZI, q_ZJ, q_ZD, q_ZP, q_Zn, q_Za] using h7, by simpa [q_nw3, q_II, q_IJ, q_ID, q_IP, q_In, q_Ia, q_JI, q_JJ, q_JD, q_JP, q_Jn, q_Ja, q_PI, q_PJ, q_PD, q_PP, q_Pn, q_Pa, q_NI, q_NJ, q_ND, q_NP, q_Nn, q_Na, q_ZI, q_ZJ, q_ZD, q_ZP, q_Zn, q_Za] using h8, fun l j c1 c2 c3 => ?_⟩
  · simp [q_nw3, q_II, q_IJ, q_ID, q_IP, q_In, q_Ia, q_JI, q_JJ, q_JD, q_JP, q_Jn, q_Ja, q_PI, q_PJ, q_PD, q_PP, q_Pn, q_Pa, q_NI, q_NJ, q_ND, q_NP, q_Nn, q_Na, q_ZI, q_ZJ, q_ZD, q_ZP, q_Zn, q_Za]
    omega
  · have := h9 l j c1 c2
    rw [q_nw3_Z (by omega)] at c3
    unfold q_nw3
    rw [q_Pa]
    by_cases e : l = 13
    · subst e
      rw [if_pos rfl] at c3
      have ez : k_Z (k_uI (k_new σ 3) 3 (k_N σ 3) 0 w) 13 = k_Z σ 13 := by simp [q_II, q_IJ, q_ID, q_IP, q_In, q_Ia, q_JI, q_JJ, q_JD, q_JP, q_Jn, q_Ja, q_PI, q_PJ, q_PD, q_PP, q_Pn, q_Pa, q_NI, q_NJ, q_ND, q_NP, q_Nn, q_Na, q_ZI, q_ZJ, q_ZD, q_ZP, q_Zn, q_Za]
      rw [ez]
      by_cases e2 : j = k_Z σ 13
      · rw [if_pos ⟨rfl, rfl, e2⟩, e2, n7]
      · rw [if_neg (fun q => e2 q.2.2)]
        have := this (by omega)
        simpa [q_II, q_IJ, q_ID, q_IP, q_In, q_Ia, q_JI, q_JJ, q_JD, q_JP, q_Jn, q_Ja, q_PI, q_PJ, q_PD, q_PP, q_Pn, q_Pa, q_NI, q_NJ, q_ND, q_NP, q_Nn, q_Na, q_ZI, q_ZJ, q_ZD, q_ZP, q_Zn, q_Za] using this
    · rw [if_neg e] at c3
      rw [if_neg (fun q => e q.1)]
      have := this c3
      have e7 : ¬ l = 3 := by omega
      simpa [q_II, q_IJ, q_ID, q_IP, q_In, q_Ia, q_JI, q_JJ, q_JD, q_JP, q_Jn, q_Ja, q_PI, q_PJ, q_PD, q_PP, q_Pn, q_Pa, q_NI, q_NJ, q_ND, q_NP, q_Nn, q_Na, q_ZI, q_ZJ, q_ZD, q_ZP, q_Zn, q_Za, e7] using this
def q_nw4 (σ : k_S) (w w2 : Int32) : k_S := k_ladd (k_uI (k_uI (k_new σ 4) 4 (k_N σ 4) 0 w) 4 (k_N σ 4) 1 w2) 14 (k_N σ 4)
theorem q_nw4_Z {σ : k_S} {w w2 : Int32} {l : Nat} (hl : l ≠ 4) : k_Z (q_nw4 σ w w2) l = if l = 14 then k_Z σ 14 + 1 else k_Z σ l := by
  by_cases e : l = 14
  · subst e
    simp [q_nw4, q_II, q_IJ, q_ID, q_IP, q_In, q_Ia, q_JI, q_JJ, q_JD, q_JP, q_Jn, q_Ja, q_PI, q_PJ, q_PD, q_PP, q_Pn, q_Pa, q_NI, q_NJ, q_ND, q_NP, q_Nn, q_Na, q_ZI, q_ZJ, q_ZD, q_ZP, q_Zn, q_Za]
  · simp [q_nw4, q_II, q_IJ, q_ID, q_IP, q_In, q_Ia, q_JI, q_JJ, q_JD, q_JP, q_Jn, q_Ja, q_PI, q_PJ, q_PD, q_PP, q_Pn, q_Pa, q_NI, q_NJ, q_ND, q_NP, q_Nn, q_Na, q_ZI, q_ZJ, q_ZD, q_ZP, q_Zn, q_Za, e, hl]
theorem q_nw4_H {σ : k_S} (h : q_H σ) (hZ : k_Z σ 14 < 4) {w w2 : Int32} : q_H (q_nw4 σ w w2) := by
  have n7 := h.n4
  obtain ⟨h1, h2, h3, h4, h5, h6, h7, h8, h9⟩ := h
  refine ⟨by simpa [q_nw4, q_II, q_IJ, q_ID, q_IP, q_In, q_Ia, q_JI, q_JJ, q_JD, q_JP, q_Jn, q_Ja, q_PI, q_PJ, q_PD, q_PP, q_Pn, q_Pa, q_NI, q_NJ, q_ND, q_NP, q_Nn, q_Na, q_ZI, q_ZJ, q_ZD, q_ZP, q_Zn, q_Za] using h1, by simpa [q_nw4, q_II, q_IJ, q_ID, q_IP, q_In, q_Ia, q_JI, q_JJ, q_JD, q_JP, q_Jn, q_Ja, q_PI, q_PJ, q_PD, q_PP, q_Pn, q_Pa, q_NI, q_NJ, q_ND, q_NP, q_Nn, q_Na, q_ZI, q_ZJ, q_ZD, q_ZP, q_Zn, q_Za] using h2, by simpa [q_nw4, q_II, q_IJ, q_ID, q_IP, q_In, q_Ia, q_JI, q_JJ, q_JD, q_JP, q_Jn, q_Ja, q_PI, q_PJ, q_PD, q_PP, q_Pn, q_Pa, q_NI, q_NJ, q_ND, q_NP, q_Nn, q_Na, q_ZI, q_ZJ, q_ZD, q_ZP, q_Zn, q_Za] using h3, by simpa [q_nw4, q_II, q_IJ, q_ID, q_IP, q_In, q_Ia, q_JI, q_JJ, q_JD, q_JP, q_Jn, q_Ja, q_PI, q_PJ, q_PD, q_PP, q_Pn, q_Pa, q_NI, q_NJ, q_ND, q_NP, q_Nn, q_Na, q_ZI, q_ZJ, q_ZD, q_ZP, q_Zn, q_Za] using h4, ?_, by simpa [q_nw4, q_II, q_IJ, q_ID, q_IP, q_In, q_Ia, q_JI, q_JJ, q_JD, q_JP, q_Jn, q_Ja, q_PI, q_PJ, q_PD, q_PP, q_Pn, q_Pa, q_NI, q_NJ, q_ND, q_NP, q_Nn, q_Na, q_ZI, q_ZJ, q_ZD, q_ZP, q_Zn, q_Za] using h6, by simpa [q_nw4, q_II, q_IJ, q_ID, q_IP, q_In, q_Ia, q_JI, q_JJ, q_JD, q_JP, q_Jn, q_Ja, q_PI, q_PJ, q_PD, q_PP, q_Pn, q_Pa, q_NI, q_NJ, q_ND, q_NP, q_Nn, q_Na, q_ZI, q_ZJ, q_ZD, q_ZP, q_Zn, q_Za] using h7, by simpa [q_nw4, q_II, q_IJ, q_ID, q_IP, q_In, q_Ia, q_JI, q_JJ, q_JD, q_JP, q_Jn, q_Ja, q_PI, q_PJ, q_PD, q_PP, q_Pn, q_Pa, q_NI, q_NJ, q_ND, q_NP, q_Nn, q_Na, q_ZI, q_ZJ, q_ZD, q_ZP, q_Zn, q_Za] using h8, fun l j c1 c2 c3 => ?_⟩
  · simp [q_nw4, q_II, q_IJ, q_ID, q_IP, q_In, q_Ia, q_JI, q_JJ, q_JD, q_JP, q_Jn, q_Ja, q_PI, q_PJ, q_PD, q_PP, q_Pn, q_Pa, q_NI, q_NJ, q_ND, q_NP, q_Nn, q_Na, q_ZI, q_ZJ, q_ZD, q_ZP, q_Zn, q_Za]
    omega
  · have := h9 l j c1 c2
    rw [q_nw4_Z (by omega)] at c3
    unfold q_nw4
    rw [q_Pa]
    by_cases e : l = 14
    · subst e
      rw [if_pos rfl] at c3
      have ez : k_Z (k_uI (k_uI (k_new σ 4) 4 (k_N σ 4) 0 w) 4 (k_N σ 4) 1 w2) 14 = k_Z σ 14 := by simp [q_II, q_IJ, q_ID, q_IP, q_In, q_Ia, q_JI, q_JJ, q_JD, q_JP, q_Jn, q_Ja, q_PI, q_PJ, q_PD, q_PP, q_Pn, q_Pa, q_NI, q_NJ, q_ND, q_NP, q_Nn, q_Na, q_ZI, q_ZJ, q_ZD, q_ZP, q_Zn, q_Za]
      rw [ez]
      by_cases e2 : j = k_Z σ 14
      · rw [if_pos ⟨rfl, rfl, e2⟩, e2, n7]
      · rw [if_neg (fun q => e2 q.2.2)]
        have := this (by omega)
        simpa [q_II, q_IJ, q_ID, q_IP, q_In, q_Ia, q_JI, q_JJ, q_JD, q_JP, q_Jn, q_Ja, q_PI, q_PJ, q_PD, q_PP, q_Pn, q_Pa, q_NI, q_NJ, q_ND, q_NP, q_Nn, q_Na, q_ZI, q_ZJ, q_ZD, q_ZP, q_Zn, q_Za] using this
    · rw [if_neg e] at c3
      rw [if_neg (fun q => e q.1)]
      have := this c3
      have e7 : ¬ l = 4 := by omega
      simpa [q_II, q_IJ, q_ID, q_IP, q_In, q_Ia, q_JI, q_JJ, q_JD, q_JP, q_Jn, q_Ja, q_PI, q_PJ, q_PD, q_PP, q_Pn, q_Pa, q_NI, q_NJ, q_ND, q_NP, q_Nn, q_Na, q_ZI, q_ZJ, q_ZD, q_ZP, q_Zn, q_Za, e7] using this
def q_nw2 (σ : k_S) (a1 a2 a3 a4 a5 : Int32) : k_S := k_ladd (k_uI (k_uI (k_uI (k_uI (k_uI (k_uI (k_new σ 2) 2 (k_N σ 2) 0 a1) 2 (k_N σ 2) 1 a2) 2 (k_N σ 2) 2 a3) 2 (k_N σ 2) 3 a4) 2 (k_N σ 2) 4 a5) 2 (k_N σ 2) 5 1001) 12 (k_N σ 2)
theorem q_nw2_Z {σ : k_S} {a1 a2 a3 a4 a5 : Int32} {l : Nat} (hl : l ≠ 2) : k_Z (q_nw2 σ a1 a2 a3 a4 a5) l = if l = 12 then k_Z σ 12 + 1 else k_Z σ l := by
  by_cases e : l = 12
  · subst e
    simp [q_nw2, q_II, q_IJ, q_ID, q_IP, q_In, q_Ia, q_JI, q_JJ, q_JD, q_JP, q_Jn, q_Ja, q_PI, q_PJ, q_PD, q_PP, q_Pn, q_Pa, q_NI, q_NJ, q_ND, q_NP, q_Nn, q_Na, q_ZI, q_ZJ, q_ZD, q_ZP, q_Zn, q_Za]
  · simp [q_nw2, q_II, q_IJ, q_ID, q_IP, q_In, q_Ia, q_JI, q_JJ, q_JD, q_JP, q_Jn, q_Ja, q_PI, q_PJ, q_PD, q_PP, q_Pn, q_Pa, q_NI, q_NJ, q_ND, q_NP, q_Nn, q_Na, q_ZI, q_ZJ, q_ZD, q_ZP, q_Zn, q_Za, e, hl]
theorem q_nw2_H {σ : k_S} (h : q_H σ) (hZ : k_Z σ 12 < 12) {a1 a2 a3 a4 a5 : Int32} : q_H (q_nw2 σ a1 a2 a3 a4 a5) := by
  have n7 := h.n2
  obtain ⟨h1, h2, h3, h4, h5, h6, h7, h8, h9⟩ := h
  refine ⟨by simpa [q_nw2, q_II, q_IJ, q_ID, q_IP, q_In, q_Ia, q_JI, q_JJ, q_JD, q_JP, q_Jn, q_Ja, q_PI, q_PJ, q_PD, q_PP, q_Pn, q_Pa, q_NI, q_NJ, q_ND, q_NP, q_Nn, q_Na, q_ZI, q_ZJ, q_ZD, q_ZP, q_Zn, q_Za] using h1, by simpa [q_nw2, q_II, q_IJ, q_ID, q_IP, q_In, q_Ia, q_JI, q_JJ, q_JD, q_JP, q_Jn, q_Ja, q_PI, q_PJ, q_PD, q_PP, q_Pn, q_Pa, q_NI, q_NJ, q_ND, q_NP, q_Nn, q_Na, q_ZI, q_ZJ, q_ZD, q_ZP, q_Zn, q_Za] using h2, ?_, by simpa [q_nw2, q_II, q_IJ, q_ID, q_IP, q_In, q_Ia, q_JI, q_JJ, q_JD, q_JP, q_Jn, q_Ja, q_PI, q_PJ, q_PD, q_PP, q_Pn, q_Pa, q_NI, q_NJ, q_ND, q_NP, q_Nn, q_Na, q_ZI, q_ZJ, q_ZD, q_ZP, q_Zn, q_Za] using h4, by simpa [q_nw2, q_II, q_IJ, q_ID, q_IP, q_In, q_Ia, q_JI, q_JJ, q_JD, q_JP, q_Jn, q_Ja, q_PI, q_PJ, q_PD, q_PP, q_Pn, q_Pa, q_NI, q_NJ, q_ND, q_NP, q_Nn, q_Na, q_ZI, q_ZJ, q_ZD, q_ZP, q_Zn, q_Za] using h5, by simpa [q_nw2, q_II, q_IJ, q_ID, q_IP, q_In, q_Ia, q_JI, q_JJ, q_JD, q_JP, q_Jn, q_Ja, q_PI, q_PJ, q_PD, q_PP, q_Pn, q_Pa, q_NI, q_NJ, q_ND, q_NP, q_Nn, q_Na, q_ZI, q_ZJ, q_ZD, q_ZP, q_Zn, q_Za] using h6, by simpa [q_nw2, q_II, q_IJ, q_ID, q_IP, q_In, q_Ia, q_JI, q_JJ, q_JD, q_JP, q_Jn, q_Ja, q_PI, q_PJ, q_PD, q_PP, q_Pn, q_Pa, q_NI, q_NJ, q_ND, q_NP, q_Nn, q_Na, q_ZI, q_ZJ, q_ZD, q_ZP, q_Zn, q_Za] using h7, by simpa [q_nw2, q_II, q_IJ, q_ID, q_IP, q_In, q_Ia, q_JI, q_JJ, q_JD, q_JP, q_Jn, q_Ja, q_PI, q_PJ, q_PD, q_PP, q_Pn, q_Pa, q_NI, q_NJ, q_ND, q_NP, q_Nn, q_Na, q_ZI, q_ZJ, q_ZD, q_ZP, q_Zn, q_Za] using h8, fun l j c1 c2 c3 => ?_⟩
  · simp [q_nw2, q_II, q_IJ, q_ID, q_IP, q_In, q_Ia, q_JI, q_JJ, q_JD, q_JP, q_Jn, q_Ja, q_PI, q_PJ, q_PD, q_PP, q_Pn, q_Pa, q_NI, q_NJ, q_ND, q_NP, q_Nn, q_Na, q_ZI, q_ZJ, q_ZD, q_ZP, q_Zn, q_Za]
    omega
  · have := h9 l j c1 c2
    rw [q_nw2_Z (by omega)] at c3
    unfold q_nw2
    rw [q_Pa]
    by_cases e : l = 12
    · subst e
      rw [if_pos rfl] at c3
      have ez : k_Z (k_uI (k_uI (k_uI (k_uI (k_uI (k_uI (k_new σ 2) 2 (k_N σ 2) 0 a1) 2 (k_N σ 2) 1 a2) 2 (k_N σ 2) 2 a3) 2 (k_N σ 2) 3 a4) 2 (k_N σ 2) 4 a5) 2 (k_N σ 2) 5 1001) 12 = k_Z σ 12 := by simp [q_II, q_IJ, q_ID, q_IP, q_In, q_Ia, q_JI, q_JJ, q_JD, q_JP, q_Jn, q_Ja, q_PI, q_PJ, q_PD, q_PP, q_Pn, q_Pa, q_NI, q_NJ, q_ND, q_NP, q_Nn, q_Na, q_ZI, q_ZJ, q_ZD, q_ZP, q_Zn, q_Za]
      rw [ez]
      by_cases e2 : j = k_Z σ 12
      · rw [if_pos ⟨rfl, rfl, e2⟩, e2, n7]
      · rw [if_neg (fun q => e2 q.2.2)]
        have := this (by omega)
        simpa [q_II, q_IJ, q_ID, q_IP, q_In, q_Ia, q_JI, q_JJ, q_JD, q_JP, q_Jn, q_Ja, q_PI, q_PJ, q_PD, q_PP, q_Pn, q_Pa, q_NI, q_NJ, q_ND, q_NP, q_Nn, q_Na, q_ZI, q_ZJ, q_ZD, q_ZP, q_Zn, q_Za] using this
    · rw [if_neg e] at c3
      rw [if_neg (fun q => e q.1)]
      have := this c3
      have e7 : ¬ l = 2 := by omega
      simpa [q_II, q_IJ, q_ID, q_IP, q_In, q_Ia, q_JI, q_JJ, q_JD, q_JP, q_Jn, q_Ja, q_PI, q_PJ, q_PD, q_PP, q_Pn, q_Pa, q_NI, q_NJ, q_ND, q_NP, q_Nn, q_Na, q_ZI, q_ZJ, q_ZD, q_ZP, q_Zn, q_Za, e7] using this
theorem g_setWeight {T : Nat} {σ : k_S} (hI : q_I T σ σ) (x w : Int32) : q_Ok (f_L_setWeight σ 0 x w 0) (fun τ => f_X8_setWeight τ 0 x w) := by
  have hz := hI.H.z13
  rcases q_ix x (n := k_Z σ 13) (by omega) with ⟨u, hu, rfl⟩ | hx
  · by_cases hd : q_rw w 1 9
    · refine q_mut (H := k_uI σ 3 u 0 w) (v := k_I σ 3 u 0) (Mu := fun τ => k_uI (k_uI τ 1 0 0 0) 25 0 u w) (T' := T) hI ?_ (q_sm.rf.uI (by omega)) (fun τ hm => ?_) (fun τ => ?_) (fun τ => rfl) (fun τ => (q_sh.rf.uI (by omega)).uI (by omega)) (fun τ hm => ?_)
      · unfold f_L_setWeight f_X7_setWeight
        rw [q_userAt hI.H hu]
        simp only [k_bc, k_bt]
        rw [(q_rwg σ hd).1]
      · show f_X8_setWeight τ 0 (nI u) w = _
        have h' := hm.th (v := 0)
        unfold f_X8_setWeight
        rw [q_isUser h'.M hu, Option.bind_some, if_neg (by decide), (q_rwg σ hd).2, Option.bind_some, if_neg (by decide), hm.M.p.2.2.2.2.2.1, Option.bind_some, if_pos (of_eq_true (q_g (by omega : u < 8) (by omega))), if_pos (of_eq_true (q_g (by omega : u < 8) (by omega))), q_c (by omega), hm.Us u hu]
      · rw [q_thr0 _ (by omega), q_thr1]
      · have hm := hm.th (v := 0)
        refine ⟨q_H_uI hm.H, hm.M.uI (Or.inl (by decide)), q_sc hm.Td (by simp [q_II, q_IJ, q_ID, q_IP, q_In, q_Ia, q_JI, q_JJ, q_JD, q_JP, q_Jn, q_Ja, q_PI, q_PJ, q_PD, q_PP, q_Pn, q_Pa, q_NI, q_NJ, q_ND, q_NP, q_Nn, q_Na, q_ZI, q_ZJ, q_ZD, q_ZP, q_Zn, q_Za]) (by simp [q_II, q_IJ, q_ID, q_IP, q_In, q_Ia, q_JI, q_JJ, q_JD, q_JP, q_Jn, q_Ja, q_PI, q_PJ, q_PD, q_PP, q_Pn, q_Pa, q_NI, q_NJ, q_ND, q_NP, q_Nn, q_Na, q_ZI, q_ZJ, q_ZD, q_ZP, q_Zn, q_Za]) (by simp [q_II, q_IJ, q_ID, q_IP, q_In, q_Ia, q_JI, q_JJ, q_JD, q_JP, q_Jn, q_Ja, q_PI, q_PJ, q_PD, q_PP, q_Pn, q_Pa, q_NI, q_NJ, q_ND, q_NP, q_Nn, q_Na, q_ZI, q_ZJ, q_ZD, q_ZP, q_Zn, q_Za]) (by simp [q_II, q_IJ, q_ID, q_IP, q_In, q_Ia, q_JI, q_JJ, q_JD, q_JP, q_Jn, q_Ja, q_PI, q_PJ, q_PD, q_PP, q_Pn, q_Pa, q_NI, q_NJ, q_ND, q_NP, q_Nn, q_Na, q_ZI, q_ZJ, q_ZD, q_ZP, q_Zn, q_Za]), hm.Ru.ag (fun l hl => by (repeat first | exact q_al.rf | exact q_al.rf.uI (by omega) | refine q_al.uI ?_ (by omega) | refine q_al.uJ ?_ | refine q_al.uP ?_ (by omega) | refine q_al.new ?_ (by omega) | refine q_al.ladd ?_ (by omega))) (fun l hl => by (repeat first | exact q_al.rf | exact q_al.rf.uI (by omega) | refine q_al.uI ?_ (by omega) | refine q_al.uJ ?_ | refine q_al.uP ?_ (by omega) | refine q_al.new ?_ (by omega) | refine q_al.ladd ?_ (by omega))), ?_, hm.Bo.ag (fun l hl => by (repeat first | exact q_al.rf | exact q_al.rf.uI (by omega) | refine q_al.uI ?_ (by omega) | refine q_al.uJ ?_ | refine q_al.uP ?_ (by omega) | refine q_al.new ?_ (by omega) | refine q_al.ladd ?_ (by omega))) (fun l hl => by (repeat first | exact q_al.rf | exact q_al.rf.uI (by omega) | refine q_al.uI ?_ (by omega) | refine q_al.uJ ?_ | refine q_al.uP ?_ (by omega) | refine q_al.new ?_ (by omega) | refine q_al.ladd ?_ (by omega))), hm.Vo.ag (fun l hl => by (repeat first | exact q_al.rf | exact q_al.rf.uI (by omega) | refine q_al.uI ?_ (by omega) | refine q_al.uJ ?_ | refine q_al.uP ?_ (by omega) | refine q_al.new ?_ (by omega) | refine q_al.ladd ?_ (by omega))) (fun l hl => by (repeat first | exact q_al.rf | exact q_al.rf.uI (by omega) | refine q_al.uI ?_ (by omega) | refine q_al.uJ ?_ | refine q_al.uP ?_ (by omega) | refine q_al.new ?_ (by omega) | refine q_al.ladd ?_ (by omega))), hm.Re.ag (Nat.le_refl _) (by simp [q_II, q_IJ, q_ID, q_IP, q_In, q_Ia, q_JI, q_JJ, q_JD, q_JP, q_Jn, q_Ja, q_PI, q_PJ, q_PD, q_PP, q_Pn, q_Pa, q_NI, q_NJ, q_ND, q_NP, q_Nn, q_Na, q_ZI, q_ZJ, q_ZD, q_ZP, q_Zn, q_Za]) (by simp [q_II, q_IJ, q_ID, q_IP, q_In, q_Ia, q_JI, q_JJ, q_JD, q_JP, q_Jn, q_Ja, q_PI, q_PJ, q_PD, q_PP, q_Pn, q_Pa, q_NI, q_NJ, q_ND, q_NP, q_Nn, q_Na, q_ZI, q_ZJ, q_ZD, q_ZP, q_Zn, q_Za]) (fun l hl => by (repeat first | exact q_al.rf | exact q_al.rf.uI (by omega) | refine q_al.uI ?_ (by omega) | refine q_al.uJ ?_ | refine q_al.uP ?_ (by omega) | refine q_al.new ?_ (by omega) | refine q_al.ladd ?_ (by omega))) (fun l hl => by (repeat first | exact q_al.rf | exact q_al.rf.uI (by omega) | refine q_al.uI ?_ (by omega) | refine q_al.uJ ?_ | refine q_al.uP ?_ (by omega) | refine q_al.new ?_ (by omega) | refine q_al.ladd ?_ (by omega))), hm.Ro.ag (fun l hl => by (repeat first | exact q_al.rf | exact q_al.rf.uI (by omega) | refine q_al.uI ?_ (by omega) | refine q_al.uJ ?_ | refine q_al.uP ?_ (by omega) | refine q_al.new ?_ (by omega) | refine q_al.ladd ?_ (by omega))), hm.Sn.ag (Nat.le_refl _) (fun l hl => by (repeat first | exact q_al.rf | exact q_al.rf.uI (by omega) | refine q_al.uI ?_ (by omega) | refine q_al.uJ ?_ | refine q_al.uP ?_ (by omega) | refine q_al.new ?_ (by omega) | refine q_al.ladd ?_ (by omega))), hm.Sr.ag (fun l hl => by (repeat first | exact q_al.rf | exact q_al.rf.uI (by omega) | refine q_al.uI ?_ (by omega) | refine q_al.uJ ?_ | refine q_al.uP ?_ (by omega) | refine q_al.new ?_ (by omega) | refine q_al.ladd ?_ (by omega))) (fun l hl => by (repeat first | exact q_al.rf | exact q_al.rf.uI (by omega) | refine q_al.uI ?_ (by omega) | refine q_al.uJ ?_ | refine q_al.uP ?_ (by omega) | refine q_al.new ?_ (by omega) | refine q_al.ladd ?_ (by omega))), hm.Sd.ag (Nat.le_refl _) (by have := hm.Td.2.2.1; omega) (fun l hl => by (repeat first | exact q_al.rf | exact q_al.rf.uI (by omega) | refine q_al.uI ?_ (by omega) | refine q_al.uJ ?_ | refine q_al.uP ?_ (by omega) | refine q_al.new ?_ (by omega) | refine q_al.ladd ?_ (by omega))) (fun l hl => by (repeat first | exact q_al.rf | exact q_al.rf.uI (by omega) | refine q_al.uI ?_ (by omega) | refine q_al.uJ ?_ | refine q_al.uP ?_ (by omega) | refine q_al.new ?_ (by omega) | refine q_al.ladd ?_ (by omega))), hm.Sj.ag (fun l hl => by (repeat first | exact q_al.rf | exact q_al.rf.uI (by omega) | refine q_al.uI ?_ (by omega) | refine q_al.uJ ?_ | refine q_al.uP ?_ (by omega) | refine q_al.new ?_ (by omega) | refine q_al.ladd ?_ (by omega))) (by simp [q_II, q_IJ, q_ID, q_IP, q_In, q_Ia, q_JI, q_JJ, q_JD, q_JP, q_Jn, q_Ja, q_PI, q_PJ, q_PD, q_PP, q_Pn, q_Pa, q_NI, q_NJ, q_ND, q_NP, q_Nn, q_Na, q_ZI, q_ZJ, q_ZD, q_ZP, q_Zn, q_Za]), hm.Ct.ag (by simp [q_II, q_IJ, q_ID, q_IP, q_In, q_Ia, q_JI, q_JJ, q_JD, q_JP, q_Jn, q_Ja, q_PI, q_PJ, q_PD, q_PP, q_Pn, q_Pa, q_NI, q_NJ, q_ND, q_NP, q_Nn, q_Na, q_ZI, q_ZJ, q_ZD, q_ZP, q_Zn, q_Za]) (by simp [q_II, q_IJ, q_ID, q_IP, q_In, q_Ia, q_JI, q_JJ, q_JD, q_JP, q_Jn, q_Ja, q_PI, q_PJ, q_PD, q_PP, q_Pn, q_Pa, q_NI, q_NJ, q_ND, q_NP, q_Nn, q_Na, q_ZI, q_ZJ, q_ZD, q_ZP, q_Zn, q_Za]) (by simp [q_II, q_IJ, q_ID, q_IP, q_In, q_Ia, q_JI, q_JJ, q_JD, q_JP, q_Jn, q_Ja, q_PI, q_PJ, q_PD, q_PP, q_Pn, q_Pa, q_NI, q_NJ, q_ND, q_NP, q_Nn, q_Na, q_ZI, q_ZJ, q_ZD, q_ZP, q_Zn, q_Za]) (fun l hl => by (repeat first | exact q_al.rf | exact q_al.rf.uI (by omega) | refine q_al.uI ?_ (by omega) | refine q_al.uJ ?_ | refine q_al.uP ?_ (by omega) | refine q_al.new ?_ (by omega) | refine q_al.ladd ?_ (by omega))), hm.De.ag (fun l hl => by (repeat first | exact q_al.rf | exact q_al.rf.uI (by omega) | refine q_al.uI ?_ (by omega) | refine q_al.uJ ?_ | refine q_al.uP ?_ (by omega) | refine q_al.new ?_ (by omega) | refine q_al.ladd ?_ (by omega))) (by simp [q_II, q_IJ, q_ID, q_IP, q_In, q_Ia, q_JI, q_JJ, q_JD, q_JP, q_Jn, q_Ja, q_PI, q_PJ, q_PD, q_PP, q_Pn, q_Pa, q_NI, q_NJ, q_ND, q_NP, q_Nn, q_Na, q_ZI, q_ZJ, q_ZD, q_ZP, q_Zn, q_Za]) (fun l hl => by (repeat first | exact q_al.rf | exact q_al.rf.uI (by omega) | refine q_al.uI ?_ (by omega) | refine q_al.uJ ?_ | refine q_al.uP ?_ (by omega) | refine q_al.new ?_ (by omega) | refine q_al.ladd ?_ (by omega))), hm.Mi.ag (fun l hl => by (repeat first | exact q_al.rf | exact q_al.rf.uI (by omega) | refine q_al.uI ?_ (by omega) | refine q_al.uJ ?_ | refine q_al.uP ?_ (by omega) | refine q_al.new ?_ (by omega) | refine q_al.ladd ?_ (by omega)))⟩
        intro i hi
        show k_I (k_uI σ 3 u 0 w) 3 i 0 = k_I (k_uI (k_uI τ 1 0 0 0) 25 0 u w) 25 0 i
        rw [q_II, q_II]
        by_cases e : i = u
        · rw [if_pos ⟨rfl, e, rfl⟩, if_pos ⟨rfl, rfl, e⟩]
        · rw [if_neg (fun q => e q.2.1), if_neg (fun q => e q.2.2)]
          exact hm.Us i hi
    · refine q_exc hI (k := 2) (b := 0) (by decide) ?_ ?_
      · unfold f_L_setWeight f_X7_setWeight
        rw [q_userAt hI.H hu]
        simp only [k_bc, k_bt]
        rw [(q_rwb σ hd).1]
        simp
      · show f_X8_setWeight σ 0 (nI u) w = _
        have h' := hI.th (v := 0)
        unfold f_X8_setWeight
        rw [q_isUser h'.M hu, Option.bind_some, if_neg (by decide), (q_rwb σ hd).2, Option.bind_some, if_pos rfl, q_fails]
        rfl
  · refine q_exc hI (k := 1) (b := 0) (by decide) ?_ ?_
    · unfold f_L_setWeight f_X7_setWeight
      rw [q_userAtb hI.H hx]
      simp [k_bc, k_bt]
    · show f_X8_setWeight σ 0 x w = _
      have h' := hI.th (v := 0)
      unfold f_X8_setWeight
      rw [q_isUserb h'.M hx, Option.bind_some, if_pos rfl, q_fails]
      rfl
theorem g_addUser {T : Nat} {σ : k_S} (hI : q_I T σ σ) (w : Int32) : q_Ok (f_L_addUser σ 0 w 0) (fun τ => f_X8_addUser τ 0 w) := by
  have hz := hI.H.z13
  have hn := hI.H.n3
  by_cases hd : q_rw w 1 9
  · by_cases hf : k_Z σ 13 < 8
    · refine q_mut (H := q_nw3 σ w) (v := nI (k_Z σ 13)) (Mu := fun τ => k_uI (k_uI (k_uI τ 1 0 0 0) 25 0 (k_Z σ 13) w) 1 0 11 (nI (k_Z σ 13 + 1))) (T' := T) hI ?_ (((q_sm.rf.new (by omega)).uI (by omega)).ladd (by omega)) (fun τ hm => ?_) (fun τ => ?_) (fun τ => rfl) (fun τ => ((q_sh.rf.uI (by omega)).uI (by omega)).uI (by omega)) (fun τ hm => ?_)
      · unfold f_L_addUser f_X7_addUser
        rw [(q_rwg σ hd).1]
        simp only [k_bc, k_bt]
        have hrm : f_X7_requireRoom σ (nI (k_Z σ 13)) 8 = some (.inl ()) := q_room σ (b := 8) hf (by omega)
        rw [if_pos hI.H.p1, hrm]
        simp only
        unfold f_X6_init
        rw [Option.bind_some]
        dsimp only
        have e1 : k_Z (k_uI (k_new σ 3) 3 (k_N σ 3) 0 w) 13 = k_Z σ 13 := by simp [q_II, q_IJ, q_ID, q_IP, q_In, q_Ia, q_JI, q_JJ, q_JD, q_JP, q_Jn, q_Ja, q_PI, q_PJ, q_PD, q_PP, q_Pn, q_Pa, q_NI, q_NJ, q_ND, q_NP, q_Nn, q_Na, q_ZI, q_ZJ, q_ZD, q_ZP, q_Zn, q_Za]
        have e2 : k_P (k_uI (k_new σ 3) 3 (k_N σ 3) 0 w) 0 0 1 = some 0 := by simp [q_II, q_IJ, q_ID, q_IP, q_In, q_Ia, q_JI, q_JJ, q_JD, q_JP, q_Jn, q_Ja, q_PI, q_PJ, q_PD, q_PP, q_Pn, q_Pa, q_NI, q_NJ, q_ND, q_NP, q_Nn, q_Na, q_ZI, q_ZJ, q_ZD, q_ZP, q_Zn, q_Za]; exact hI.H.p1
        have e3 : k_ladd (k_uI (k_new σ 3) 3 (k_N σ 3) 0 w) 13 (k_N σ 3) = q_nw3 σ w := rfl
        rw [e1, if_pos (by omega), e2, if_pos rfl, e3, q_nw3_Z (by decide), if_pos rfl, nI_pred]
      · show f_X8_addUser τ 0 w = _
        unfold f_X8_addUser
        have k8 : ¬ nI (k_Z σ 13) = 8 := fun q => by
          have := (nI_eq (a := k_Z σ 13) (b := 8) (by omega) (by omega)).mp q
          omega
        rw [(q_rwg σ hd).2, Option.bind_some, if_neg (by decide), hm.M.U, if_neg k8, hm.M.p.2.2.2.2.2.1, Option.bind_some, if_pos (of_eq_true (q_g (by omega : k_Z σ 13 < 8) (by omega))), q_c (by omega), nI_1, nI_pred]
      · rw [q_thr0 _ (by omega), q_thr0 _ (by omega), q_thr1]
      · have hm := hm.th (v := 0)
        have z13 : k_Z (q_nw3 σ w) 13 = k_Z σ 13 + 1 := by rw [q_nw3_Z (by decide), if_pos rfl]
        have z15 : k_Z (q_nw3 σ w) 15 = k_Z σ 15 := by rw [q_nw3_Z (by decide), if_neg (by decide)]
        have zo : ∀ l, l ≠ 3 → l ≠ 13 → k_Z (q_nw3 σ w) l = k_Z σ l := fun l h1 h2 => by rw [q_nw3_Z h1, if_neg h2]
        have AA : ∀ l, l ≠ 3 → l ≠ 13 → q_al l σ (q_nw3 σ w) := fun l h1 h2 => by
          unfold q_nw3
          exact ((q_al.rf.new h1).uI h1).ladd h2
        refine ⟨q_nw3_H hm.H hf, ?_, ?_, hm.Ru.ag (fun l hl => AA l (by omega) (by omega)) (fun l hl => by (repeat first | exact q_al.rf | exact q_al.rf.uI (by omega) | refine q_al.uI ?_ (by omega) | refine q_al.uJ ?_ | refine q_al.uP ?_ (by omega) | refine q_al.new ?_ (by omega) | refine q_al.ladd ?_ (by omega))), ?_, hm.Bo.ag (fun l hl => AA l (by omega) (by omega)) (fun l hl => by (repeat first | exact q_al.rf | exact q_al.rf.uI (by omega) | refine q_al.uI ?_ (by omega) | refine q_al.uJ ?_ | refine q_al.uP ?_ (by omega) | refine q_al.new ?_ (by omega) | refine q_al.ladd ?_ (by omega))), ?_, hm.Re.ag (Nat.le_refl _) (by omega) (by rw [zo 14 (by decide) (by decide)]; exact Nat.le_refl _) (fun l hl => AA l (by omega) (by omega)) (fun l hl => by (repeat first | exact q_al.rf | exact q_al.rf.uI (by omega) | refine q_al.uI ?_ (by omega) | refine q_al.uJ ?_ | refine q_al.uP ?_ (by omega) | refine q_al.new ?_ (by omega) | refine q_al.ladd ?_ (by omega))), hm.Ro.ag (fun l hl => AA l (by omega) (by omega)), hm.Sn.ag (Nat.le_refl _) (fun l hl => AA l (by omega) (by omega)), hm.Sr.ag (fun l hl => AA l (by omega) (by omega)) (fun l hl => by (repeat first | exact q_al.rf | exact q_al.rf.uI (by omega) | refine q_al.uI ?_ (by omega) | refine q_al.uJ ?_ | refine q_al.uP ?_ (by omega) | refine q_al.new ?_ (by omega) | refine q_al.ladd ?_ (by omega))), hm.Sd.ag (Nat.le_refl _) (by have := hm.Td.2.2.1; omega) (fun l hl => AA l (by omega) (by omega)) (fun l hl => by (repeat first | exact q_al.rf | exact q_al.rf.uI (by omega) | refine q_al.uI ?_ (by omega) | refine q_al.uJ ?_ | refine q_al.uP ?_ (by omega) | refine q_al.new ?_ (by omega) | refine q_al.ladd ?_ (by omega))), hm.Sj.ag (fun l hl => AA l (by omega) (by omega)) rfl, hm.Ct.ag z15 (by simp [q_II, q_IJ, q_ID, q_IP, q_In, q_Ia, q_JI, q_JJ, q_JD, q_JP, q_Jn, q_Ja, q_PI, q_PJ, q_PD, q_PP, q_Pn, q_Pa, q_NI, q_NJ, q_ND, q_NP, q_Nn, q_Na, q_ZI, q_ZJ, q_ZD, q_ZP, q_Zn, q_Za]) (by simp [q_II, q_IJ, q_ID, q_IP, q_In, q_Ia, q_JI, q_JJ, q_JD, q_JP, q_Jn, q_Ja, q_PI, q_PJ, q_PD, q_PP, q_Pn, q_Pa, q_NI, q_NJ, q_ND, q_NP, q_Nn, q_Na, q_ZI, q_ZJ, q_ZD, q_ZP, q_Zn, q_Za]) (fun l hl => by (repeat first | exact q_al.rf | exact q_al.rf.uI (by omega) | refine q_al.uI ?_ (by omega) | refine q_al.uJ ?_ | refine q_al.uP ?_ (by omega) | refine q_al.new ?_ (by omega) | refine q_al.ladd ?_ (by omega))), hm.De.ag (fun l hl => AA l (by omega) (by omega)) (by simp [q_II, q_IJ, q_ID, q_IP, q_In, q_Ia, q_JI, q_JJ, q_JD, q_JP, q_Jn, q_Ja, q_PI, q_PJ, q_PD, q_PP, q_Pn, q_Pa, q_NI, q_NJ, q_ND, q_NP, q_Nn, q_Na, q_ZI, q_ZJ, q_ZD, q_ZP, q_Zn, q_Za]) (fun l hl => by (repeat first | exact q_al.rf | exact q_al.rf.uI (by omega) | refine q_al.uI ?_ (by omega) | refine q_al.uJ ?_ | refine q_al.uP ?_ (by omega) | refine q_al.new ?_ (by omega) | refine q_al.ladd ?_ (by omega))), hm.Mi.ag (fun l hl => AA l (by omega) (by omega))⟩
        · rw [z13, z15, zo 12 (by decide) (by decide), zo 14 (by decide) (by decide)]
          exact (hm.M.uI (Or.inl (by decide))).incU (by omega)
        · exact q_sc hm.Td ((AA 0 (by decide) (by decide)).1 0 8) (by simp [q_II, q_IJ, q_ID, q_IP, q_In, q_Ia, q_JI, q_JJ, q_JD, q_JP, q_Jn, q_Ja, q_PI, q_PJ, q_PD, q_PP, q_Pn, q_Pa, q_NI, q_NJ, q_ND, q_NP, q_Nn, q_Na, q_ZI, q_ZJ, q_ZD, q_ZP, q_Zn, q_Za]) ((AA 0 (by decide) (by decide)).1 0 9) (by simp [q_II, q_IJ, q_ID, q_IP, q_In, q_Ia, q_JI, q_JJ, q_JD, q_JP, q_Jn, q_Ja, q_PI, q_PJ, q_PD, q_PP, q_Pn, q_Pa, q_NI, q_NJ, q_ND, q_NP, q_Nn, q_Na, q_ZI, q_ZJ, q_ZD, q_ZP, q_Zn, q_Za])
        · intro i hi
          rw [z13] at hi
          show k_I (q_nw3 σ w) 3 i 0 = k_I (k_uI (k_uI (k_uI τ 1 0 0 0) 25 0 (k_Z σ 13) w) 1 0 11 (nI (k_Z σ 13 + 1))) 25 0 i
          unfold q_nw3
          rw [q_Ia, q_II, q_In, q_II, if_neg (c := (25 = 1 ∧ _)) (by omega), q_II, hn]
          by_cases e : i = k_Z σ 13
          · rw [if_pos ⟨rfl, e, rfl⟩, if_pos ⟨rfl, rfl, e⟩]
          · rw [if_neg (fun q => e q.2.1), if_neg (fun q => e q.2), if_neg (fun q => e q.2.2)]
            exact hm.Us i (by omega)
        · intro r u hr hu
          have := hm.Vo r u hr hu
          rw [z13, z15, (AA 9 (by decide) (by decide)).1]
          have e42 : k_I (k_uI (k_uI (k_uI τ 1 0 0 0) 25 0 (k_Z σ 13) w) 1 0 11 (nI (k_Z σ 13 + 1))) 42 r u = k_I (k_uI τ 1 0 0 0) 42 r u := by simp [q_II, q_IJ, q_ID, q_IP, q_In, q_Ia, q_JI, q_JJ, q_JD, q_JP, q_Jn, q_Ja, q_PI, q_PJ, q_PD, q_PP, q_Pn, q_Pa, q_NI, q_NJ, q_ND, q_NP, q_Nn, q_Na, q_ZI, q_ZJ, q_ZD, q_ZP, q_Zn, q_Za]
          rw [e42]
          exact ⟨this.1, fun q => this.2 (by omega)⟩
    · have e8 : k_Z σ 13 = 8 := by omega
      refine q_exc hI (k := 2) (b := 0) (by decide) ?_ ?_
      · unfold f_L_addUser f_X7_addUser
        rw [(q_rwg σ hd).1]
        simp only [k_bc, k_bt]
        rw [if_pos hI.H.p1, e8, show (8 : Int32) = nI 8 from rfl, q_roomb σ (by omega)]
        simp
      · show f_X8_addUser σ 0 w = _
        unfold f_X8_addUser
        rw [(q_rwg σ hd).2, Option.bind_some, if_neg (by decide), hI.M.U, e8, if_pos (by rfl), q_fails]
        rfl
  · refine q_exc hI (k := 1) (b := 0) (by decide) ?_ ?_
    · unfold f_L_addUser f_X7_addUser
      rw [(q_rwb σ hd).1]
      simp [k_bc, k_bt]
    · show f_X8_addUser σ 0 w = _
      unfold f_X8_addUser
      rw [(q_rwb σ hd).2, Option.bind_some, if_pos rfl, q_fails]
      rfl
theorem g_addBot {T : Nat} {σ : k_S} (hI : q_I T σ σ) (w w2 : Int32) : q_Ok (f_L_addBot σ 0 w w2 0) (fun τ => f_X8_addBot τ 0 w w2) := by
  have hz := hI.H.z14
  have hn := hI.H.n4
  by_cases hd : q_rw w 0 7
  · by_cases hd2 : q_rw w2 50 100
    · by_cases hf : k_Z σ 14 < 4
      · refine q_mut (H := q_nw4 σ w w2) (v := nI (k_Z σ 14)) (Mu := fun τ => k_uI (k_uI (k_uI (k_uI τ 1 0 0 0) 26 0 (k_Z σ 14) w) 27 0 (k_Z σ 14) w2) 1 0 12 (nI (k_Z σ 14 + 1))) (T' := T) hI ?_ ((((q_sm.rf.new (by omega)).uI (by omega)).uI (by omega)).ladd (by omega)) (fun τ hm => ?_) (fun τ => ?_) (fun τ => rfl) (fun τ => (((q_sh.rf.uI (by omega)).uI (by omega)).uI (by omega)).uI (by omega)) (fun τ hm => ?_)
        · unfold f_L_addBot f_X7_addBot
          rw [(q_rwg σ hd).1]
          simp only [k_bc, k_bt]
          rw [(q_rwg σ hd2).1]
          simp only
          have hrm : f_X7_requireRoom σ (nI (k_Z σ 14)) 4 = some (.inl ()) := q_room σ (b := 4) hf (by omega)
          rw [if_pos hI.H.p2, hrm]
          simp only
          unfold f_X0_init
          rw [Option.bind_some]
          dsimp only
          have e1 : k_Z (k_uI (k_uI (k_new σ 4) 4 (k_N σ 4) 0 w) 4 (k_N σ 4) 1 w2) 14 = k_Z σ 14 := by simp [q_II, q_IJ, q_ID, q_IP, q_In, q_Ia, q_JI, q_JJ, q_JD, q_JP, q_Jn, q_Ja, q_PI, q_PJ, q_PD, q_PP, q_Pn, q_Pa, q_NI, q_NJ, q_ND, q_NP, q_Nn, q_Na, q_ZI, q_ZJ, q_ZD, q_ZP, q_Zn, q_Za]
          have e2 : k_P (k_uI (k_uI (k_new σ 4) 4 (k_N σ 4) 0 w) 4 (k_N σ 4) 1 w2) 0 0 2 = some 0 := by simp [q_II, q_IJ, q_ID, q_IP, q_In, q_Ia, q_JI, q_JJ, q_JD, q_JP, q_Jn, q_Ja, q_PI, q_PJ, q_PD, q_PP, q_Pn, q_Pa, q_NI, q_NJ, q_ND, q_NP, q_Nn, q_Na, q_ZI, q_ZJ, q_ZD, q_ZP, q_Zn, q_Za]; exact hI.H.p2
          have e3 : k_ladd (k_uI (k_uI (k_new σ 4) 4 (k_N σ 4) 0 w) 4 (k_N σ 4) 1 w2) 14 (k_N σ 4) = q_nw4 σ w w2 := rfl
          rw [e1, if_pos (by omega), e2, if_pos rfl, e3, q_nw4_Z (by decide), if_pos rfl, nI_pred]
        · show f_X8_addBot τ 0 w w2 = _
          unfold f_X8_addBot
          have k8 : ¬ nI (k_Z σ 14) = 4 := fun q => by
            have := (nI_eq (a := k_Z σ 14) (b := 4) (by omega) (by omega)).mp q
            omega
          have gb : 0 ≤ nI (k_Z σ 14) ∧ (nI (k_Z σ 14)).toNatClampNeg < 4 := of_eq_true (q_g (by omega) (by omega))
          rw [(q_rwg σ hd).2, Option.bind_some, if_neg (by decide), (q_rwg σ hd2).2, Option.bind_some, if_neg (by decide), hm.M.B, if_neg k8, hm.M.p.2.2.2.2.2.2.1, Option.bind_some, if_pos gb, hm.M.p.2.2.2.2.2.2.2.1, Option.bind_some, if_pos gb, q_c (by omega), nI_1, nI_pred]
        · rw [q_thr0 _ (by omega), q_thr0 _ (by omega), q_thr0 _ (by omega), q_thr1]
        · have hm := hm.th (v := 0)
          have z14 : k_Z (q_nw4 σ w w2) 14 = k_Z σ 14 + 1 := by rw [q_nw4_Z (by decide), if_pos rfl]
          have zo : ∀ l, l ≠ 4 → l ≠ 14 → k_Z (q_nw4 σ w w2) l = k_Z σ l := fun l h1 h2 => by rw [q_nw4_Z h1, if_neg h2]
          have AA : ∀ l, l ≠ 4 → l ≠ 14 → q_al l σ (q_nw4 σ w w2) := fun l h1 h2 => by
            unfold q_nw4
            exact (((q_al.rf.new h1).uI h1).uI h1).ladd h2
          refine ⟨q_nw4_H hm.H hf, ?_, ?_, hm.Ru.ag (fun l hl => AA l (by omega) (by omega)) (fun l hl => by (repeat first | exact q_al.rf | exact q_al.rf.uI (by omega) | refine q_al.uI ?_ (by omega) | refine q_al.uJ ?_ | refine q_al.uP ?_ (by omega) | refine q_al.new ?_ (by omega) | refine q_al.ladd ?_ (by omega))), hm.Us.ag (fun l hl => AA l (by omega) (by omega)) (fun l hl => by (repeat first | exact q_al.rf | exact q_al.rf.uI (by omega) | refine q_al.uI ?_ (by omega) | refine q_al.uJ ?_ | refine q_al.uP ?_ (by omega) | refine q_al.new ?_ (by omega) | refine q_al.ladd ?_ (by omega))), ?_, hm.Vo.ag (fun l hl => AA l (by omega) (by omega)) (fun l hl => by (repeat first | exact q_al.rf | exact q_al.rf.uI (by omega) | refine q_al.uI ?_ (by omega) | refine q_al.uJ ?_ | refine q_al.uP ?_ (by omega) | refine q_al.new ?_ (by omega) | refine q_al.ladd ?_ (by omega))), hm.Re.ag (Nat.le_refl _) (by rw [zo 13 (by decide) (by decide)]; exact Nat.le_refl _) (by omega) (fun l hl => AA l (by omega) (by omega)) (fun l hl => by (repeat first | exact q_al.rf | exact q_al.rf.uI (by omega) | refine q_al.uI ?_ (by omega) | refine q_al.uJ ?_ | refine q_al.uP ?_ (by omega) | refine q_al.new ?_ (by omega) | refine q_al.ladd ?_ (by omega))), hm.Ro.ag (fun l hl => AA l (by omega) (by omega)), hm.Sn.ag (Nat.le_refl _) (fun l hl => AA l (by omega) (by omega)), hm.Sr.ag (fun l hl => AA l (by omega) (by omega)) (fun l hl => by (repeat first | exact q_al.rf | exact q_al.rf.uI (by omega) | refine q_al.uI ?_ (by omega) | refine q_al.uJ ?_ | refine q_al.uP ?_ (by omega) | refine q_al.new ?_ (by omega) | refine q_al.ladd ?_ (by omega))), hm.Sd.ag (Nat.le_refl _) (by have := hm.Td.2.2.1; omega) (fun l hl => AA l (by omega) (by omega)) (fun l hl => by (repeat first | exact q_al.rf | exact q_al.rf.uI (by omega) | refine q_al.uI ?_ (by omega) | refine q_al.uJ ?_ | refine q_al.uP ?_ (by omega) | refine q_al.new ?_ (by omega) | refine q_al.ladd ?_ (by omega))), hm.Sj.ag (fun l hl => AA l (by omega) (by omega)) rfl, hm.Ct.ag (zo 15 (by decide) (by decide)) (by simp [q_II, q_IJ, q_ID, q_IP, q_In, q_Ia, q_JI, q_JJ, q_JD, q_JP, q_Jn, q_Ja, q_PI, q_PJ, q_PD, q_PP, q_Pn, q_Pa, q_NI, q_NJ, q_ND, q_NP, q_Nn, q_Na, q_ZI, q_ZJ, q_ZD, q_ZP, q_Zn, q_Za]) (by simp [q_II, q_IJ, q_ID, q_IP, q_In, q_Ia, q_JI, q_JJ, q_JD, q_JP, q_Jn, q_Ja, q_PI, q_PJ, q_PD, q_PP, q_Pn, q_Pa, q_NI, q_NJ, q_ND, q_NP, q_Nn, q_Na, q_ZI, q_ZJ, q_ZD, q_ZP, q_Zn, q_Za]) (fun l hl => by (repeat first | exact q_al.rf | exact q_al.rf.uI (by omega) | refine q_al.uI ?_ (by omega) | refine q_al.uJ ?_ | refine q_al.uP ?_ (by omega) | refine q_al.new ?_ (by omega) | refine q_al.ladd ?_ (by omega))), hm.De.ag (fun l hl => AA l (by omega) (by omega)) (by simp [q_II, q_IJ, q_ID, q_IP, q_In, q_Ia, q_JI, q_JJ, q_JD, q_JP, q_Jn, q_Ja, q_PI, q_PJ, q_PD, q_PP, q_Pn, q_Pa, q_NI, q_NJ, q_ND, q_NP, q_Nn, q_Na, q_ZI, q_ZJ, q_ZD, q_ZP, q_Zn, q_Za]) (fun l hl => by (repeat first | exact q_al.rf | exact q_al.rf.uI (by omega) | refine q_al.uI ?_ (by omega) | refine q_al.uJ ?_ | refine q_al.uP ?_ (by omega) | refine q_al.new ?_ (by omega) | refine q_al.ladd ?_ (by omega))), hm.Mi.ag (fun l hl => AA l (by omega) (by omega))⟩
          · rw [z14, zo 12 (by decide) (by decide), zo 13 (by decide) (by decide), zo 15 (by decide) (by decide)]
            exact ((hm.M.uI (Or.inl (by decide))).uI (Or.inl (by decide))).incB (by omega)
          · exact q_sc hm.Td ((AA 0 (by decide) (by decide)).1 0 8) (by simp [q_II, q_IJ, q_ID, q_IP, q_In, q_Ia, q_JI, q_JJ, q_JD, q_JP, q_Jn, q_Ja, q_PI, q_PJ, q_PD, q_PP, q_Pn, q_Pa, q_NI, q_NJ, q_ND, q_NP, q_Nn, q_Na, q_ZI, q_ZJ, q_ZD, q_ZP, q_Zn, q_Za]) ((AA 0 (by decide) (by decide)).1 0 9) (by simp [q_II, q_IJ, q_ID, q_IP, q_In, q_Ia, q_JI, q_JJ, q_JD, q_JP, q_Jn, q_Ja, q_PI, q_PJ, q_PD, q_PP, q_Pn, q_Pa, q_NI, q_NJ, q_ND, q_NP, q_Nn, q_Na, q_ZI, q_ZJ, q_ZD, q_ZP, q_Zn, q_Za])
          · intro i hi
            rw [z14] at hi
            have r1 : k_I (k_uI (k_uI (k_uI (k_uI τ 1 0 0 0) 26 0 (k_Z σ 14) w) 27 0 (k_Z σ 14) w2) 1 0 12 (nI (k_Z σ 14 + 1))) 26 0 i = if i = k_Z σ 14 then w else k_I (k_uI τ 1 0 0 0) 26 0 i := by simp [q_II, q_IJ, q_ID, q_IP, q_In, q_Ia, q_JI, q_JJ, q_JD, q_JP, q_Jn, q_Ja, q_PI, q_PJ, q_PD, q_PP, q_Pn, q_Pa, q_NI, q_NJ, q_ND, q_NP, q_Nn, q_Na, q_ZI, q_ZJ, q_ZD, q_ZP, q_Zn, q_Za]
            have r2 : k_I (k_uI (k_uI (k_uI (k_uI τ 1 0 0 0) 26 0 (k_Z σ 14) w) 27 0 (k_Z σ 14) w2) 1 0 12 (nI (k_Z σ 14 + 1))) 27 0 i = if i = k_Z σ 14 then w2 else k_I (k_uI τ 1 0 0 0) 27 0 i := by simp [q_II, q_IJ, q_ID, q_IP, q_In, q_Ia, q_JI, q_JJ, q_JD, q_JP, q_Jn, q_Ja, q_PI, q_PJ, q_PD, q_PP, q_Pn, q_Pa, q_NI, q_NJ, q_ND, q_NP, q_Nn, q_Na, q_ZI, q_ZJ, q_ZD, q_ZP, q_Zn, q_Za]
            rw [r1, r2]
            unfold q_nw4
            by_cases e : i = k_Z σ 14
            · rw [if_pos e, if_pos e]
              simp [q_II, q_IJ, q_ID, q_IP, q_In, q_Ia, q_JI, q_JJ, q_JD, q_JP, q_Jn, q_Ja, q_PI, q_PJ, q_PD, q_PP, q_Pn, q_Pa, q_NI, q_NJ, q_ND, q_NP, q_Nn, q_Na, q_ZI, q_ZJ, q_ZD, q_ZP, q_Zn, q_Za, e, hn]
              exact hd2
            · rw [if_neg e, if_neg e]
              have := hm.Bo i (by omega)
              simpa [q_II, q_IJ, q_ID, q_IP, q_In, q_Ia, q_JI, q_JJ, q_JD, q_JP, q_Jn, q_Ja, q_PI, q_PJ, q_PD, q_PP, q_Pn, q_Pa, q_NI, q_NJ, q_ND, q_NP, q_Nn, q_Na, q_ZI, q_ZJ, q_ZD, q_ZP, q_Zn, q_Za, e, hn] using this
      · have e8 : k_Z σ 14 = 4 := by omega
        refine q_exc hI (k := 2) (b := 0) (by decide) ?_ ?_
        · unfold f_L_addBot f_X7_addBot
          rw [(q_rwg σ hd).1]
          simp only [k_bc, k_bt]
          rw [(q_rwg σ hd2).1]
          simp only
          rw [if_pos hI.H.p2, e8, show (4 : Int32) = nI 4 from rfl, q_roomb σ (by omega)]
          simp
        · show f_X8_addBot σ 0 w w2 = _
          unfold f_X8_addBot
          rw [(q_rwg σ hd).2, Option.bind_some, if_neg (by decide), (q_rwg σ hd2).2, Option.bind_some, if_neg (by decide), hI.M.B, e8, if_pos (by rfl), q_fails]
          rfl
    · refine q_exc hI (k := 1) (b := 0) (by decide) ?_ ?_
      · unfold f_L_addBot f_X7_addBot
        rw [(q_rwg σ hd).1]
        simp only [k_bc, k_bt]
        rw [(q_rwb σ hd2).1]
        simp
      · show f_X8_addBot σ 0 w w2 = _
        unfold f_X8_addBot
        rw [(q_rwg σ hd).2, Option.bind_some, if_neg (by decide), (q_rwb σ hd2).2, Option.bind_some, if_pos rfl, q_fails]
        rfl
  · refine q_exc hI (k := 1) (b := 0) (by decide) ?_ ?_
    · unfold f_L_addBot f_X7_addBot
      rw [(q_rwb σ hd).1]
      simp [k_bc, k_bt]
    · show f_X8_addBot σ 0 w w2 = _
      unfold f_X8_addBot
      rw [(q_rwb σ hd).2, Option.bind_some, if_pos rfl, q_fails]
      rfl
