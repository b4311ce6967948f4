/-! ===== THE PURE PART: what a change leaves alone ===== -/
/-- all things of label l are as they were -/
def q_al (l : Nat) (σ τ : k_S) : Prop := (∀ i k, k_I τ l i k = k_I σ l i k) ∧ (∀ i k, k_P τ l i k = k_P σ l i k) ∧ k_Z τ l = k_Z σ l
theorem q_al.rf {l : Nat} {σ : k_S} : q_al l σ σ := ⟨fun _ _ => rfl, fun _ _ => rfl, rfl⟩
theorem q_al.tr {l : Nat} {σ τ υ : k_S} (h : q_al l σ τ) (h' : q_al l τ υ) : q_al l σ υ := ⟨fun i k => (h'.1 i k).trans (h.1 i k), fun i k => (h'.2.1 i k).trans (h.2.1 i k), h'.2.2.trans h.2.2⟩
theorem q_al.uI {l : Nat} {σ τ : k_S} (h : q_al l σ τ) {l' i k : Nat} {v : Int32} (hl : l ≠ l') : q_al l σ (k_uI τ l' i k v) := ⟨fun i' k' => by rw [q_II, if_neg (by omega)]; exact h.1 i' k', fun i' k' => by rw [q_PI]; exact h.2.1 i' k', by rw [q_ZI]; exact h.2.2⟩
theorem q_al.uJ {l : Nat} {σ τ : k_S} (h : q_al l σ τ) {l' i k : Nat} {v : Int64} : q_al l σ (k_uJ τ l' i k v) := h
theorem q_al.uP {l : Nat} {σ τ : k_S} (h : q_al l σ τ) {l' i k : Nat} {v : Option Nat} (hl : l ≠ l') : q_al l σ (k_uP τ l' i k v) := ⟨fun i' k' => by rw [q_IP]; exact h.1 i' k', fun i' k' => by rw [q_PP, if_neg (by omega)]; exact h.2.1 i' k', by rw [q_ZP]; exact h.2.2⟩
theorem q_al.new {l : Nat} {σ τ : k_S} (h : q_al l σ τ) {l' : Nat} (hl : l ≠ l') : q_al l σ (k_new τ l') := ⟨fun i' k' => by rw [q_In, if_neg (by omega)]; exact h.1 i' k', fun i' k' => by rw [q_Pn, if_neg (by omega)]; exact h.2.1 i' k', by rw [q_Zn, if_neg (by omega)]; exact h.2.2⟩
theorem q_al.ladd {l : Nat} {σ τ : k_S} (h : q_al l σ τ) {l' j : Nat} (hl : l ≠ l') : q_al l σ (k_ladd τ l' j) := ⟨fun i' k' => by rw [q_Ia]; exact h.1 i' k', fun i' k' => by rw [q_Pa, if_neg (by omega)]; exact h.2.1 i' k', by rw [q_Za, if_neg (by omega)]; exact h.2.2⟩
theorem q_Ru.ag {a a' m m' : k_S} (h : q_Ru a m) (A : ∀ l, l = 2 ∨ l = 12 → q_al l a a') (B : ∀ l, (20 ≤ l ∧ l ≤ 24) ∨ l = 28 → q_al l m m') : q_Ru a' m' := by
  unfold q_Ru at h ⊢
  simp only [(A 2 (by omega)).1, (A 12 (by omega)).2.2, (B 20 (by omega)).1, (B 21 (by omega)).1, (B 22 (by omega)).1, (B 23 (by omega)).1, (B 24 (by omega)).1, (B 28 (by omega)).1]
  exact h
theorem q_Us.ag {a a' m m' : k_S} (h : q_Us a m) (A : ∀ l, l = 3 ∨ l = 13 → q_al l a a') (B : ∀ l, l = 25 → q_al l m m') : q_Us a' m' := by
  unfold q_Us at h ⊢
  simp only [(A 3 (by omega)).1, (A 13 (by omega)).2.2, (B 25 rfl).1]
  exact h
theorem q_Bo.ag {a a' m m' : k_S} (h : q_Bo a m) (A : ∀ l, l = 4 ∨ l = 14 → q_al l a a') (B : ∀ l, l = 26 ∨ l = 27 → q_al l m m') : q_Bo a' m' := by
  unfold q_Bo at h ⊢
  simp only [(A 4 (by omega)).1, (A 14 (by omega)).2.2, (B 26 (by omega)).1, (B 27 (by omega)).1]
  exact h
theorem q_Vo.ag {a a' m m' : k_S} (h : q_Vo a m) (A : ∀ l, l = 9 ∨ l = 13 ∨ l = 15 → q_al l a a') (B : ∀ l, l = 42 → q_al l m m') : q_Vo a' m' := by
  unfold q_Vo at h ⊢
  simp only [(A 9 (by omega)).1, (A 13 (by omega)).2.2, (A 15 (by omega)).2.2, (B 42 rfl).1]
  exact h
/-- one report's row -/
theorem q_Rp.ag {T T' : Nat} {a a' m m' : k_S} {r : Nat} (h : q_Rp T a m r) (hT : T ≤ T') (hU : k_Z a 13 ≤ k_Z a' 13) (A : ∀ k, k_I a' 5 r k = k_I a 5 r k) (P : ∀ k, k_P a' 5 r k = k_P a 5 r k) (B : ∀ l, (29 ≤ l ∧ l ≤ 33) ∨ l = 38 ∨ l = 40 → k_I m' l 0 r = k_I m l 0 r) : q_Rp T' a' m' r := by
  unfold q_Rp at h ⊢
  simp only [A, P, B 29 (by omega), B 30 (by omega), B 31 (by omega), B 32 (by omega), B 33 (by omega), B 38 (by omega), B 40 (by omega)]
  obtain ⟨h1, ⟨u, h2, h3⟩, ⟨v, h4, h5⟩, h6, h7, h8, h9, ⟨d, h10, h11⟩, h12⟩ := h
  exact ⟨h1, ⟨u, by omega, h3⟩, ⟨v, by omega, h5⟩, h6, h7, h8, h9, ⟨d, by omega, h11⟩, h12⟩
theorem q_bot.mono {B B' : Nat} (hB : B ≤ B') {p : Option Nat} {b : Int32} (h : q_bot B p b) : q_bot B' p b := by
  rcases h with h | ⟨j, h1, h2⟩
  · exact Or.inl h
  · exact Or.inr ⟨j, by omega, h2⟩
theorem q_Rs.ag {a a' m m' : k_S} {r : Nat} (h : q_Rs a m r) (hB : k_Z a 14 ≤ k_Z a' 14) (A : ∀ k, k_I a' 5 r k = k_I a 5 r k) (P : ∀ k, k_P a' 5 r k = k_P a 5 r k) (o : k_I a' 10 0 r = k_I a 10 0 r) (t : k_I a' 11 0 r = k_I a 11 0 r) (B : ∀ l, l = 34 ∨ l = 35 ∨ (38 ≤ l ∧ l ≤ 40) → k_I m' l 0 r = k_I m l 0 r) : q_Rs a' m' r := by
  unfold q_Rs at h ⊢
  simp only [A, P, o, t, B 34 (by omega), B 35 (by omega), B 38 (by omega), B 39 (by omega), B 40 (by omega)]
  rcases h with q | ⟨h1, h2, h3, h4, h5, h6, h7, h8, h9, h10⟩ | ⟨h1, h2, h3, h4, h5, h6⟩ | q
  · exact Or.inl q
  · exact Or.inr (Or.inl ⟨h1, h2, h3, h4, h5, h6, h7, h8, h9.mono hB, h10⟩)
  · exact Or.inr (Or.inr (Or.inl ⟨h1, h2, h3, h4, h5, h6.mono hB⟩))
  · exact Or.inr (Or.inr (Or.inr q))
theorem q_Re.ag {T T' : Nat} {a a' m m' : k_S} (h : q_Re T a m) (hT : T ≤ T') (hU : k_Z a 13 ≤ k_Z a' 13) (hB : k_Z a 14 ≤ k_Z a' 14) (A : ∀ l, l = 5 ∨ l = 10 ∨ l = 11 ∨ l = 15 → q_al l a a') (B : ∀ l, (29 ≤ l ∧ l ≤ 35) ∨ (38 ≤ l ∧ l ≤ 40) → q_al l m m') : q_Re T' a' m' := fun r hr => by
  rw [(A 15 (by omega)).2.2] at hr
  exact ⟨(h r hr).1.ag hT hU (fun k => (A 5 (by omega)).1 r k) (fun k => (A 5 (by omega)).2.1 r k) (fun l hl => (B l (by omega)).1 0 r), (h r hr).2.ag hB (fun k => (A 5 (by omega)).1 r k) (fun k => (A 5 (by omega)).2.1 r k) ((A 10 (by omega)).1 0 r) ((A 11 (by omega)).1 0 r) (fun l hl => (B l (by omega)).1 0 r)⟩
theorem q_Ro.ag {a a' : k_S} (h : q_Ro a) (A : ∀ l, l = 10 ∨ l = 15 → q_al l a a') : q_Ro a' := by
  unfold q_Ro at h ⊢
  simp only [(A 10 (by omega)).1, (A 15 (by omega)).2.2]
  exact h
theorem q_Sn.ag {T T' : Nat} {a a' : k_S} (h : q_Sn T a) (hT : T ≤ T') (A : ∀ l, l = 6 ∨ l = 16 → q_al l a a') : q_Sn T' a' := by
  unfold q_Sn at h ⊢
  simp only [(A 6 (by omega)).1, (A 6 (by omega)).2.1, (A 16 (by omega)).2.2]
  intro j hj
  obtain ⟨u, s, e, h1, h2, h3, h4, h5, h6⟩ := h j hj
  exact ⟨u, s, e, h1, h2, h3, h4, by omega, h6⟩
theorem q_Sr.ag {a a' m m' : k_S} (h : q_Sr a m) (A : ∀ l, l = 5 ∨ l = 6 ∨ l = 15 ∨ l = 16 → q_al l a a') (B : ∀ l, 36 ≤ l ∧ l ≤ 39 → q_al l m m') : q_Sr a' m' := by
  unfold q_Sr at h ⊢
  simp only [(A 5 (by omega)).2.1, (A 6 (by omega)).1, (A 6 (by omega)).2.1, (A 15 (by omega)).2.2, (A 16 (by omega)).2.2, (B 36 (by omega)).1, (B 37 (by omega)).1, (B 38 (by omega)).1, (B 39 (by omega)).1]
  exact h
theorem q_Sd.ag {T T' : Nat} {a a' m m' : k_S} (h : q_Sd T a m) (hT : T ≤ T') (hT2 : T' ≤ 2000) (A : ∀ l, l = 5 ∨ l = 6 ∨ l = 15 ∨ l = 16 → q_al l a a') (B : ∀ l, l = 38 ∨ l = 39 → q_al l m m') : q_Sd T' a' m' := by
  unfold q_Sd at h ⊢
  simp only [(A 5 (by omega)).2.1, (A 6 (by omega)).1, (A 15 (by omega)).2.2, (A 16 (by omega)).2.2, (B 38 (by omega)).1, (B 39 (by omega)).1]
  exact fun op hc f hf => h op hc f (fun j hj hd => hf j hj (Int32.le_trans hd (nI_le hT (by omega))))
theorem q_Sj.ag {T : Nat} {a a' m m' : k_S} (h : q_Sj T a m) (A : ∀ l, l = 6 ∨ l = 16 → q_al l a a') (J : k_J m' 1 0 32 = k_J m 1 0 32) : q_Sj T a' m' := by
  unfold q_Sj at h ⊢
  rw [J, h, (A 16 (by omega)).2.2]
  unfold q_dy
  simp only [(A 6 (by omega)).1]
theorem q_Ct.ag {a a' m m' : k_S} (h : q_Ct a m) (A : k_Z a' 15 = k_Z a 15) (h30 : k_I m' 1 0 30 = k_I m 1 0 30) (h31 : k_I m' 1 0 31 = k_I m 1 0 31) (B : ∀ l, 38 ≤ l ∧ l ≤ 40 → q_al l m m') : q_Ct a' m' := by
  unfold q_Ct q_mrv at h ⊢
  simp only [A, h30, h31, (B 38 (by omega)).1, (B 39 (by omega)).1, (B 40 (by omega)).1]
  exact h
theorem q_De.ag {a a' m m' : k_S} (h : q_De a m) (A : ∀ l, l = 8 ∨ l = 15 ∨ l = 16 ∨ l = 17 → q_al l a a') (h29 : k_I m' 1 0 29 = k_I m 1 0 29) (B : ∀ l, l = 38 ∨ l = 40 → q_al l m m') : q_De a' m' := by
  unfold q_De at h ⊢
  simp only [(A 8 (by omega)).1, (A 15 (by omega)).2.2, (A 16 (by omega)).2.2, (A 17 (by omega)).2.2, h29, (B 38 (by omega)).1, (B 40 (by omega)).1]
  exact h
theorem q_Mi.ag {a a' : k_S} (h : q_Mi a) (A : ∀ l, l = 2 ∨ l = 5 ∨ l = 7 ∨ l = 8 ∨ l = 10 ∨ l = 11 ∨ l = 12 ∨ l = 15 ∨ l = 17 → q_al l a a') : q_Mi a' := by
  unfold q_Mi q_En q_hs0 q_hs q_hr q_ho at h ⊢
  simp only [(A 2 (by omega)).1, (A 5 (by omega)).1, (A 7 (by omega)).1, (A 7 (by omega)).2.1, (A 8 (by omega)).1, (A 10 (by omega)).1, (A 11 (by omega)).1, (A 12 (by omega)).2.2, (A 15 (by omega)).2.2, (A 17 (by omega)).2.2]
  exact h
/-! a call that changes -/
theorem q_sh.tr {σ τ υ : k_S} (h : q_sh σ τ) (h' : q_sh τ υ) : q_sh σ υ := fun l hl => by
  obtain ⟨h1, h2, h3, h4⟩ := h l hl
  obtain ⟨g1, g2, g3, g4⟩ := h' l hl
  exact ⟨fun i k => (g1 i k).trans (h1 i k), fun i k => (g2 i k).trans (h2 i k), g3.trans h3, g4.trans h4⟩
theorem q_mut {T T' : Nat} {σ H : k_S} {L : Option (Int32 × k_S)} {M : k_S → Option (Int32 × k_S)} {v : Int32} {Mu : k_S → k_S} (hI : q_I T σ σ) (hL : L = some (0, k_uJ H 18 0 0 v.toInt64)) (hs : q_sm σ H)
    (hM : ∀ τ, q_I T σ τ → M τ = some (v, Mu τ)) (h0 : ∀ τ, k_I (Mu τ) 1 0 0 = 0) (hJ : ∀ τ, k_J (Mu τ) 18 0 0 = k_J τ 18 0 0) (hsh : ∀ τ, q_sh τ (Mu τ)) (hI' : ∀ τ, q_I T σ τ → q_I T' H (Mu τ)) : q_Ok L M := by
  have s1 : q_sm σ (k_uJ H 18 0 0 v.toInt64) := hs.uJ (by decide)
  refine ⟨0, k_uJ H 18 0 0 v.toInt64, v, Mu (k_uJ H 18 0 0 v.toInt64), T', hL, hM _ (hI.sm s1), h0 _, fun _ => ?_, ?_⟩
  · rw [hJ, q_JJ, if_pos ⟨rfl, rfl, rfl⟩]
  · exact (hI' _ (hI.sm s1)).sh (q_sh.tr (q_sh.rf.uJ) (hsh _))
theorem q_thr0 (τ : k_S) {l i k : Nat} {v : Int32} (h : l ≠ 1 ∨ k ≠ 0) : k_I (k_uI τ l i k v) 1 0 0 = k_I τ 1 0 0 := by
  rw [q_II, if_neg (by omega)]
theorem q_thr1 (τ : k_S) {v : Int32} : k_I (k_uI τ 1 0 0 v) 1 0 0 = v := by
  rw [q_II, if_pos ⟨rfl, rfl, rfl⟩]
theorem q_Ru.T {a m : k_S} (h : q_Ru a m) : q_Ru a m := h
theorem q_sc {a m : k_S} {T : Nat} (h : q_Td T a m) {a' m' : k_S} (h1 : k_I a' 0 0 8 = k_I a 0 0 8) (h2 : k_I m' 1 0 14 = k_I m 1 0 14) (h3 : k_I a' 0 0 9 = k_I a 0 0 9) (h4 : k_I m' 1 0 13 = k_I m 1 0 13) : q_Td T a' m' := by
  unfold q_Td at h ⊢
  rw [h1, h2, h3, h4]
  exact h
theorem g_setQuorum {T : Nat} {σ : k_S} (hI : q_I T σ σ) (w : Int32) : q_Ok (f_L_setQuorum σ 0 w 0) (fun τ => f_X8_setQuorum τ 0 w) := by
  by_cases hd : q_rw w 1 50
  · refine q_mut (H := k_uI σ 0 0 9 w) (v := k_I σ 0 0 9) (Mu := fun τ => k_uI (k_uI τ 1 0 0 0) 1 0 13 w) (T' := T) hI ?_ (q_sm.rf.uI (by omega)) (fun τ hm => ?_) (fun τ => ?_) (fun τ => rfl) (fun τ => (q_sh.rf.uI (by omega)).uI (by omega)) (fun τ hm => ?_)
    · unfold f_L_setQuorum f_X7_setQuorum
      rw [(q_rwg σ hd).1]
      rfl
    · show f_X8_setQuorum τ 0 w = _
      unfold f_X8_setQuorum
      rw [(q_rwg σ hd).2, Option.bind_some, if_neg (by decide), hm.Td.2.2.2]
    · rw [q_thr0 _ (by omega), q_thr1]
    · have hm := hm.th (v := 0)
      refine ⟨q_H_uI hm.H, hm.M.uI (Or.inr (by decide)), ?_, hm.Ru.ag (fun l hl => by (repeat first | exact q_al.rf | exact q_al.rf.uI (by omega) | refine q_al.uI ?_ (by omega) | refine q_al.uJ ?_ | refine q_al.uP ?_ (by omega) | refine q_al.new ?_ (by omega) | refine q_al.ladd ?_ (by omega))) (fun l hl => by (repeat first | exact q_al.rf | exact q_al.rf.uI (by omega) | refine q_al.uI ?_ (by omega) | refine q_al.uJ ?_ | refine q_al.uP ?_ (by omega) | refine q_al.new ?_ (by omega) | refine q_al.ladd ?_ (by omega))), hm.Us.ag (fun l hl => by (repeat first | exact q_al.rf | exact q_al.rf.uI (by omega) | refine q_al.uI ?_ (by omega) | refine q_al.uJ ?_ | refine q_al.uP ?_ (by omega) | refine q_al.new ?_ (by omega) | refine q_al.ladd ?_ (by omega))) (fun l hl => by (repeat first | exact q_al.rf | exact q_al.rf.uI (by omega) | refine q_al.uI ?_ (by omega) | refine q_al.uJ ?_ | refine q_al.uP ?_ (by omega) | refine q_al.new ?_ (by omega) | refine q_al.ladd ?_ (by omega))), hm.Bo.ag (fun l hl => by (repeat first | exact q_al.rf | exact q_al.rf.uI (by omega) | refine q_al.uI ?_ (by omega) | refine q_al.uJ ?_ | refine q_al.uP ?_ (by omega) | refine q_al.new ?_ (by omega) | refine q_al.ladd ?_ (by omega))) (fun l hl => by (repeat first | exact q_al.rf | exact q_al.rf.uI (by omega) | refine q_al.uI ?_ (by omega) | refine q_al.uJ ?_ | refine q_al.uP ?_ (by omega) | refine q_al.new ?_ (by omega) | refine q_al.ladd ?_ (by omega))), hm.Vo.ag (fun l hl => by (repeat first | exact q_al.rf | exact q_al.rf.uI (by omega) | refine q_al.uI ?_ (by omega) | refine q_al.uJ ?_ | refine q_al.uP ?_ (by omega) | refine q_al.new ?_ (by omega) | refine q_al.ladd ?_ (by omega))) (fun l hl => by (repeat first | exact q_al.rf | exact q_al.rf.uI (by omega) | refine q_al.uI ?_ (by omega) | refine q_al.uJ ?_ | refine q_al.uP ?_ (by omega) | refine q_al.new ?_ (by omega) | refine q_al.ladd ?_ (by omega))), hm.Re.ag (Nat.le_refl _) (Nat.le_refl _) (Nat.le_refl _) (fun l hl => by (repeat first | exact q_al.rf | exact q_al.rf.uI (by omega) | refine q_al.uI ?_ (by omega) | refine q_al.uJ ?_ | refine q_al.uP ?_ (by omega) | refine q_al.new ?_ (by omega) | refine q_al.ladd ?_ (by omega))) (fun l hl => by (repeat first | exact q_al.rf | exact q_al.rf.uI (by omega) | refine q_al.uI ?_ (by omega) | refine q_al.uJ ?_ | refine q_al.uP ?_ (by omega) | refine q_al.new ?_ (by omega) | refine q_al.ladd ?_ (by omega))), hm.Ro.ag (fun l hl => by (repeat first | exact q_al.rf | exact q_al.rf.uI (by omega) | refine q_al.uI ?_ (by omega) | refine q_al.uJ ?_ | refine q_al.uP ?_ (by omega) | refine q_al.new ?_ (by omega) | refine q_al.ladd ?_ (by omega))), hm.Sn.ag (Nat.le_refl _) (fun l hl => by (repeat first | exact q_al.rf | exact q_al.rf.uI (by omega) | refine q_al.uI ?_ (by omega) | refine q_al.uJ ?_ | refine q_al.uP ?_ (by omega) | refine q_al.new ?_ (by omega) | refine q_al.ladd ?_ (by omega))), hm.Sr.ag (fun l hl => by (repeat first | exact q_al.rf | exact q_al.rf.uI (by omega) | refine q_al.uI ?_ (by omega) | refine q_al.uJ ?_ | refine q_al.uP ?_ (by omega) | refine q_al.new ?_ (by omega) | refine q_al.ladd ?_ (by omega))) (fun l hl => by (repeat first | exact q_al.rf | exact q_al.rf.uI (by omega) | refine q_al.uI ?_ (by omega) | refine q_al.uJ ?_ | refine q_al.uP ?_ (by omega) | refine q_al.new ?_ (by omega) | refine q_al.ladd ?_ (by omega))), hm.Sd.ag (Nat.le_refl _) (by have := hm.Td.2.2.1; omega) (fun l hl => by (repeat first | exact q_al.rf | exact q_al.rf.uI (by omega) | refine q_al.uI ?_ (by omega) | refine q_al.uJ ?_ | refine q_al.uP ?_ (by omega) | refine q_al.new ?_ (by omega) | refine q_al.ladd ?_ (by omega))) (fun l hl => by (repeat first | exact q_al.rf | exact q_al.rf.uI (by omega) | refine q_al.uI ?_ (by omega) | refine q_al.uJ ?_ | refine q_al.uP ?_ (by omega) | refine q_al.new ?_ (by omega) | refine q_al.ladd ?_ (by omega))), hm.Sj.ag (fun l hl => by (repeat first | exact q_al.rf | exact q_al.rf.uI (by omega) | refine q_al.uI ?_ (by omega) | refine q_al.uJ ?_ | refine q_al.uP ?_ (by omega) | refine q_al.new ?_ (by omega) | refine q_al.ladd ?_ (by omega))) rfl, hm.Ct.ag rfl (by rw [q_II, if_neg (by omega)]) (by rw [q_II, if_neg (by omega)]) (fun l hl => by (repeat first | exact q_al.rf | exact q_al.rf.uI (by omega) | refine q_al.uI ?_ (by omega) | refine q_al.uJ ?_ | refine q_al.uP ?_ (by omega) | refine q_al.new ?_ (by omega) | refine q_al.ladd ?_ (by omega))), hm.De.ag (fun l hl => by (repeat first | exact q_al.rf | exact q_al.rf.uI (by omega) | refine q_al.uI ?_ (by omega) | refine q_al.uJ ?_ | refine q_al.uP ?_ (by omega) | refine q_al.new ?_ (by omega) | refine q_al.ladd ?_ (by omega))) (by rw [q_II, if_neg (by omega)]) (fun l hl => by (repeat first | exact q_al.rf | exact q_al.rf.uI (by omega) | refine q_al.uI ?_ (by omega) | refine q_al.uJ ?_ | refine q_al.uP ?_ (by omega) | refine q_al.new ?_ (by omega) | refine q_al.ladd ?_ (by omega))), hm.Mi.ag (fun l hl => by (repeat first | exact q_al.rf | exact q_al.rf.uI (by omega) | refine q_al.uI ?_ (by omega) | refine q_al.uJ ?_ | refine q_al.uP ?_ (by omega) | refine q_al.new ?_ (by omega) | refine q_al.ladd ?_ (by omega)))⟩
      obtain ⟨t1, t2, t3, t4⟩ := hm.Td
      refine ⟨?_, ?_, t3, ?_⟩
      · rw [q_II, if_neg (by omega)]; exact t1
      · rw [q_II, if_neg (by omega)]; exact t2
      · rw [q_II, if_pos ⟨rfl, rfl, rfl⟩, q_II, if_pos ⟨rfl, rfl, rfl⟩]
  · refine q_exc hI (k := 1) (b := 0) (by decide) ?_ ?_
    · unfold f_L_setQuorum f_X7_setQuorum
      rw [(q_rwb σ hd).1]
      simp [k_bc, k_bt]
    · show f_X8_setQuorum σ 0 w = _
      unfold f_X8_setQuorum
      rw [(q_rwb σ hd).2, Option.bind_some, if_pos rfl, q_fails]
      rfl
