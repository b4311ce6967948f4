/-! ===== THE PURE PART: found anew, consistent ===== -/
theorem q_set1_I {T : Nat} {σ m : k_S} (h : q_I T σ m) {o t : Nat → Int32} {v : Int32} : q_I T (q_set 1 σ o t v) m := by
  have al : ∀ l, l ≠ 10 → l ≠ 11 → l ≠ 8 → q_al l σ (q_set 1 σ o t v) := fun l h10 h11 h8 => ⟨fun i k => q_setI' h10 h11 h8, fun _ _ => rfl, rfl⟩
  have e10 : ∀ k, k_I (q_set 1 σ o t v) 10 0 k = k_I σ 10 0 k := fun k => by rw [q_setI, if_neg (by omega), if_neg (by omega), if_neg (by omega)]
  have e11 : ∀ k, k_I (q_set 1 σ o t v) 11 0 k = k_I σ 11 0 k := fun k => by rw [q_setI, if_neg (by omega), if_neg (by omega), if_neg (by omega)]
  have e8 : k_I (q_set 1 σ o t v) 8 0 2 = k_I σ 8 0 2 := by rw [q_setI, if_neg (by omega), if_neg (by omega), if_neg (by omega)]
  have z : ∀ l, k_Z (q_set 1 σ o t v) l = k_Z σ l := fun _ => rfl
  have m0 : ∀ l, q_al l m m := fun l => q_al.rf
  refine ⟨q_set_H h.H, h.M, q_sc h.Td ((al 0 (by decide) (by decide) (by decide)).1 0 8) rfl ((al 0 (by decide) (by decide) (by decide)).1 0 9) rfl, h.Ru.ag (fun l hl => al l (by omega) (by omega) (by omega)) (fun l _ => m0 l), h.Us.ag (fun l hl => al l (by omega) (by omega) (by omega)) (fun l _ => m0 l), h.Bo.ag (fun l hl => al l (by omega) (by omega) (by omega)) (fun l _ => m0 l), h.Vo.ag (fun l hl => al l (by omega) (by omega) (by omega)) (fun l _ => m0 l), fun r hr => ⟨(h.rp hr).ag (Nat.le_refl _) (Nat.le_of_eq (z 13).symm) (fun k => (al 5 (by decide) (by decide) (by decide)).1 r k) (fun _ => rfl) (fun _ _ => rfl), (h.rs hr).ag (Nat.le_of_eq (z 14).symm) (fun k => (al 5 (by decide) (by decide) (by decide)).1 r k) (fun _ => rfl) (e10 r) (e11 r) (fun _ _ => rfl)⟩, fun r h1 h2 => (e10 r).trans (h.Ro r h1 h2), h.Sn.ag (Nat.le_refl _) (fun l hl => al l (by omega) (by omega) (by omega)), h.Sr.ag (fun l hl => al l (by omega) (by omega) (by omega)) (fun l _ => m0 l), h.Sd.ag (Nat.le_refl _) (by have := h.Td.2.2.1; omega) (fun l hl => al l (by omega) (by omega) (by omega)) (fun l _ => m0 l), h.Sj.ag (fun l hl => al l (by omega) (by omega) (by omega)) rfl, h.Ct.ag rfl rfl rfl (fun l _ => m0 l), ?_, ?_⟩
  · obtain ⟨d1, d2, d3, d4⟩ := h.De
    exact ⟨d1, e8.trans d2, d3, d4⟩
  · obtain ⟨hE, hmm, hk⟩ := h.Mi
    have eh : q_hs0 (q_set 1 σ o t v) (k_Z σ 17) = q_hs0 σ (k_Z σ 17) := by
      unfold q_hs0 q_hs q_hr q_ho
      simp only [(al 2 (by decide) (by decide) (by decide)).1, (al 5 (by decide) (by decide) (by decide)).1, (al 7 (by decide) (by decide) (by decide)).1, (al 7 (by decide) (by decide) (by decide)).2.1, (al 12 (by decide) (by decide) (by decide)).2.2]
    refine ⟨hE, ?_, fun k hk2 => ?_⟩
    · rw [z, eh, e8]
      exact hmm
    · rw [z, eh, e10, e11]
      exact hk k hk2
theorem q_set1_sm {σ : k_S} {o t : Nat → Int32} {v : Int32} : q_sm σ (q_set 1 σ o t v) := ⟨fun i k hk => q_setI' (by decide) (by decide) (by decide), fun l hl i k => q_setI' (by omega) (by omega) (by omega), fun _ _ => rfl, fun _ _ _ _ => rfl⟩
theorem q_I.anew {T : Nat} {σ m : k_S} (h : q_I T σ m) : ∃ (o t : Nat → Int32) (v : Int32), f_X7_settleAllAnew σ 0 = some ((), q_set 1 σ o t v) ∧ v = k_I σ 8 0 2 ∧ ∀ k, k < 20 → o k = k_I σ 10 0 k := by
  obtain ⟨hE, hmm, hk⟩ := h.Mi
  obtain ⟨o, t, v, h1, h2, h3⟩ := q_anew h.H hE h.nu
  exact ⟨o, t, v, h1, h2.trans hmm, fun k hk2 => (h3 k hk2).1.trans (hk k hk2).1⟩
theorem g_outcomeAnew {T : Nat} {σ : k_S} (hI : q_I T σ σ) (x : Int32) : q_Ok (f_L_outcomeAnew σ 0 x 0) (fun τ => f_X8_outcomeAnew τ 0 x) := by
  have hz := hI.H.z15
  rcases q_ix x (n := k_Z σ 15) (by omega) with ⟨r, hr, rfl⟩ | hx
  · by_cases hs : k_I σ 38 0 r = 100
    · obtain ⟨o, t, v, h1, h2, h3⟩ := hI.anew
      have hch : k_isC (k_I (q_set 1 σ o t v) 10 1 r) = true := by
        show k_isC (o r) = true
        rw [h3 r (by omega)]
        exact hI.ch r (by omega)
      refine q_mut (H := q_set 1 σ o t v) (v := k_I σ 10 0 r) (Mu := fun τ => k_uI τ 1 0 0 0) (T' := T) hI ?_ q_set1_sm (fun τ hm => ?_) (fun τ => q_thr1 τ) (fun τ => rfl) (fun τ => q_sh.rf.uI (by omega)) (fun τ hm => q_set1_I hm.th)
      · unfold f_L_outcomeAnew f_X7_outcomeAnew f_X7_requireStanding
        rw [q_reportAt hI.H hr]
        simp only [k_bc, k_bt]
        rw [if_pos (by rw [(hI.st hr).1]; exact hs)]
        simp only
        rw [h1, Option.bind_some]
        dsimp only
        rw [(q_set_H hI.H).p7, Option.bind_some, q_outcomeOf (q_set_H hI.H) (by omega) (by omega) hch, Option.bind_some, if_pos hch, show k_I (q_set 1 σ o t v) 10 1 r = o r from rfl, h3 r (by omega)]
      · show f_X8_outcomeAnew τ 0 (nI r) = _
        have h' := hm.th (v := 0)
        have hs2 : k_I τ 38 0 r = 100 := by rw [← (hm.st hr).1, (hI.st hr).1]; exact hs
        have ho2 := hm.out hr hs2
        unfold f_X8_outcomeAnew f_X8_outcome
        rw [q_isOpen hm hr, if_pos hs2, Option.bind_some, if_pos rfl]
        dsimp only
        rw [h'.M.q.2.2.2.2.2.2.2.2.2.2.1, Option.bind_some, if_pos (of_eq_true (q_g (by omega : r < 20) (by omega))), q_c (by omega), q_thI (by decide), if_pos (q_oc_C ho2.2), Option.bind_some, if_pos (q_oc_C ho2.2), ho2.1]
    · refine q_exc hI (k := 2) (b := 0) (by decide) ?_ ?_
      · unfold f_L_outcomeAnew f_X7_outcomeAnew f_X7_requireStanding
        rw [q_reportAt hI.H hr]
        simp only [k_bc, k_bt]
        rw [if_neg (by rw [(hI.st hr).1]; exact hs)]
        simp
      · show f_X8_outcomeAnew σ 0 (nI r) = _
        unfold f_X8_outcomeAnew f_X8_outcome
        rw [q_isOpen hI hr, if_neg hs, Option.bind_some]
        dsimp only
        rw [if_neg q_10, Option.bind_some]
        dsimp only
        rw [if_pos (by decide)]
  · refine q_exc hI (k := 1) (b := 0) (by decide) ?_ ?_
    · unfold f_L_outcomeAnew f_X7_outcomeAnew
      rw [q_reportAtb hI.H hx]
      simp [k_bc, k_bt]
    · show f_X8_outcomeAnew σ 0 x = _
      unfold f_X8_outcomeAnew f_X8_outcome
      rw [q_isOpenb hI hx, Option.bind_some]
      dsimp only
      rw [if_neg q_10, Option.bind_some]
      dsimp only
      rw [if_pos (by decide)]
theorem g_isConsistent {T : Nat} {σ : k_S} (hI : q_I T σ σ) : ∃ v σ1 σ2, f_X7_isConsistent σ 0 = some (v, σ1) ∧ f_X8_isConsistent σ1 0 = some (v, σ2) ∧ q_I T σ2 σ2 := by
  have hz := hI.H.z15
  obtain ⟨o, t, v, h1, h2, h3⟩ := hI.anew
  have I1 : q_I T (q_set 1 σ o t v) (q_set 1 σ o t v) := (q_set1_I hI).sm q_set1_sm
  refine ⟨1, q_set 1 σ o t v, k_uI (q_set 1 σ o t v) 1 0 0 0, ?_, rfl, (I1.th).sh (q_sh.rf.uI (by omega))⟩
  have c1 : q_ch (q_set 1 σ o t v) 1 := fun r hr => by
    show k_isC (o r) = true
    rw [h3 r hr]
    exact hI.ch r hr
  have l1 := q_cons1 I1.H I1.ch c1 (fun r hr => by
    refine ⟨?_, ?_⟩
    · have := (I1.st hr).1
      rw [this]
      rcases I1.rs hr with q | q | q | q
      · exact Or.inr ⟨by rw [q.1]; decide, q.2.2.2.2.2.2⟩
      · exact Or.inl ⟨q.1, by rw [q.2.1]; exact q_n45 q.2.2.1⟩
      · exact Or.inr ⟨by rw [q.1]; decide, q.2.1⟩
      · exact Or.inl ⟨q.1, by rw [q.2.1]; exact q_n45 q.2.2.1⟩
    · have e10 : k_I (q_set 1 σ o t v) 10 0 r = k_I σ 10 0 r := by rw [q_setI, if_neg (by omega), if_neg (by omega), if_neg (by omega)]
      rw [e10]
      exact (h3 r (Nat.lt_of_lt_of_le hr hz)).symm)
  have l2 := q_cons2 I1.H (fun b hb => by
    have := I1.Bo b hb
    rw [this.2.1]
    exact this.2.2)
  unfold f_X7_isConsistent
  rw [h1, Option.bind_some]
  dsimp only
  rw [l1]
  show k_lr (f_X7_isConsistent_l2 200 0 (q_set 1 σ o t v) 0) _ = _
  rw [l2]
  show ((k_P (q_set 1 σ o t v) 0 0 6).bind _) = _
  have e8 : k_I (q_set 1 σ o t v) 8 0 2 = k_I (q_set 1 σ o t v) 8 1 2 := by
    rw [q_setI, if_neg (by omega), if_neg (by omega), if_neg (by omega)]
    exact h2.symm
  rw [I1.H.p6, Option.bind_some, I1.H.p7, Option.bind_some, if_pos e8]
