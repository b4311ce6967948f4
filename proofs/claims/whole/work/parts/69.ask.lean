/-! ===== THE PURE PART: calls that ask ===== -/
/-- the class's answer L and the model's M are alike, and what holds goes on holding -/
def q_Ok (L : Option (Int32 × k_S)) (M : k_S → Option (Int32 × k_S)) : Prop :=
  ∃ (k : Int32) (σ1 : k_S) (b : Int32) (σ2 : k_S) (T : Nat), L = some (k, σ1) ∧ M σ1 = some (b, σ2) ∧ k_I σ2 1 0 0 = k ∧ (k = 0 → k_J σ2 18 0 0 = b.toInt64) ∧ q_I T σ2 σ2
def q_OkB (L : Option (Int32 × k_S)) (M : k_S → Option (Int32 × k_S)) : Prop :=
  ∃ (k : Int32) (σ1 : k_S) (b : Int32) (σ2 : k_S) (T : Nat), L = some (k, σ1) ∧ M σ1 = some (b, σ2) ∧ k_I σ2 1 0 0 = k ∧ (k = 0 → k_J σ2 18 0 0 = b.toInt64) ∧ (b = 0 ∨ b = 1) ∧ q_I T σ2 σ2
theorem q_query {T : Nat} {σ : k_S} (hI : q_I T σ σ) {L : Option (Int32 × k_S)} {M : k_S → Option (Int32 × k_S)} {v : Int32} (hL : L = some (0, k_uJ σ 18 0 0 v.toInt64)) (hM : ∀ τ, q_I T σ τ → M τ = some (v, k_uI τ 1 0 0 0)) : q_Ok L M := by
  have s1 : q_sm σ (k_uJ σ 18 0 0 v.toInt64) := q_sm.rf.uJ (by decide)
  refine ⟨0, k_uJ σ 18 0 0 v.toInt64, v, k_uI (k_uJ σ 18 0 0 v.toInt64) 1 0 0 0, T, hL, hM _ (hI.sm s1), ?_, fun _ => ?_, ?_⟩
  · rw [q_II, if_pos ⟨rfl, rfl, rfl⟩]
  · rw [q_JI, q_JJ, if_pos ⟨rfl, rfl, rfl⟩]
  · exact (hI.sm s1.thr).sh (q_sh.rf.uJ.uI (by omega))
theorem q_queryB {T : Nat} {σ : k_S} (hI : q_I T σ σ) {L : Option (Int32 × k_S)} {M : k_S → Option (Int32 × k_S)} {v : Int32} (hb : v = 0 ∨ v = 1) (hL : L = some (0, k_uJ σ 18 0 0 v.toInt64)) (hM : ∀ τ, q_I T σ τ → M τ = some (v, k_uI τ 1 0 0 0)) : q_OkB L M := by
  obtain ⟨k, σ1, b, σ2, T', h1, h2, h3, h4, h5⟩ := q_query hI hL hM
  have e : b = v := by
    rw [hL] at h1
    cases h1
    rw [hM _ (hI.sm (q_sm.rf.uJ (by decide)))] at h2
    cases h2
    rfl
  exact ⟨k, σ1, b, σ2, T', h1, h2, h3, h4, by rw [e]; exact hb, h5⟩
theorem q_exc {T : Nat} {σ : k_S} (hI : q_I T σ σ) {L : Option (Int32 × k_S)} {M : k_S → Option (Int32 × k_S)} {k b : Int32} (hk : k ≠ 0) (hL : L = some (k, σ)) (hM : M σ = some (b, k_uI σ 1 0 0 k)) : q_Ok L M :=
  ⟨k, σ, b, k_uI σ 1 0 0 k, T, hL, hM, by rw [q_II, if_pos ⟨rfl, rfl, rfl⟩], fun e => absurd e hk, (hI.sm q_sm.rf.thr).sh (q_sh.rf.uI (by omega))⟩
theorem q_excB {T : Nat} {σ : k_S} (hI : q_I T σ σ) {L : Option (Int32 × k_S)} {M : k_S → Option (Int32 × k_S)} {k : Int32} (hk : k ≠ 0) (hL : L = some (k, σ)) (hM : M σ = some (0, k_uI σ 1 0 0 k)) : q_OkB L M :=
  ⟨k, σ, 0, k_uI σ 1 0 0 k, T, hL, hM, by rw [q_II, if_pos ⟨rfl, rfl, rfl⟩], fun e => absurd e hk, Or.inl rfl, (hI.sm q_sm.rf.thr).sh (q_sh.rf.uI (by omega))⟩
theorem q_I.th {T : Nat} {a m : k_S} (h : q_I T a m) {v : Int32} : q_I T a (k_uI m 1 0 0 v) := h.sm q_sm.rf.thr
theorem q_01_ho (σ : k_S) (r : Nat) (d : Int32) : q_ho σ r d = 0 ∨ q_ho σ r d = 1 := by
  unfold q_ho
  split
  · exact Or.inl rfl
  · split
    · exact Or.inl rfl
    · exact Or.inr rfl
theorem q_rwn {x : Int32} (h : q_rw x 0 1000) : ∃ d, d ≤ 1000 ∧ x = nI d := nI_of2 (M := 1000) (n := 1000) (by decide) (Int32.not_lt.mpr h.1) h.2
theorem q_uII (σ : k_S) (l i k : Nat) (v w : Int32) : k_uI (k_uI σ l i k v) l i k w = k_uI σ l i k w := q_eS (fun l' i' k' => by
  rw [q_II, q_II, q_II]
  by_cases e : l' = l ∧ i' = i ∧ k' = k
  · rw [if_pos e, if_pos e]
  · rw [if_neg e, if_neg e, if_neg e]) (fun _ _ _ => rfl) rfl
theorem q_fails (σ : k_S) (v w : Int32) : f_X8_fails (k_uI σ 1 0 0 v) 0 w = some (0, k_uI σ 1 0 0 w) := by
  unfold f_X8_fails
  rw [q_uII]
theorem g_isInForce {T : Nat} {σ : k_S} (hI : q_I T σ σ) (x d : Int32) : q_OkB (f_L_isInForce σ 0 x d 0) (fun τ => f_X8_isInForce τ 0 x d) := by
  have hz := hI.H.z12
  rcases q_ix x (n := k_Z σ 12) (by omega) with ⟨r, hr, rfl⟩ | hx
  · by_cases hd : q_rw d 0 1000
    · obtain ⟨n, hn, rfl⟩ := q_rwn hd
      refine q_queryB hI (v := q_ho σ r (nI n)) (q_01_ho _ _ _) ?_ (fun τ hm => ?_)
      · unfold f_L_isInForce f_X7_isInForce
        rw [q_ruleAt hI.H hr]
        simp only [k_bc, k_bt]
        rw [(q_rwg σ hd).1]
        simp only [q_holds, Option.bind_some, if_pos (q_01_ho σ r (nI n))]
        rcases q_01_ho σ r (nI n) with e | e <;> rw [e] <;> rfl
      · show f_X8_isInForce τ 0 (nI r) (nI n) = _
        unfold f_X8_isInForce
        have h' := hm.th (v := 0)
        rw [q_isRule hm.M hr, Option.bind_some, if_neg (by decide), (q_rwg σ hd).2, Option.bind_some, if_neg (by decide), if_pos rfl, q_inForce h'.M (by omega), Option.bind_some, q_hi h'.Ru hr hn]
        split
        · rename_i e; rw [e]
        · rename_i e
          rw [← q_hi h'.Ru hr hn] at e ⊢
          rcases q_01_ho σ r (nI n) with e2 | e2
          · exact absurd e2 e
          · rw [e2]
    · refine q_excB hI (k := 2) (by decide) ?_ ?_
      · unfold f_L_isInForce f_X7_isInForce
        rw [q_ruleAt hI.H hr]
        simp only [k_bc, k_bt]
        rw [(q_rwb σ hd).1]
        simp
      · show f_X8_isInForce σ 0 (nI r) d = _
        unfold f_X8_isInForce
        rw [q_isRule hI.M hr, Option.bind_some, if_neg (by decide), (q_rwb σ hd).2, Option.bind_some, if_pos rfl, if_neg (by decide)]
  · refine q_excB hI (k := 1) (by decide) ?_ ?_
    · unfold f_L_isInForce f_X7_isInForce
      rw [q_ruleAtb hI.H hx]
      simp [k_bc, k_bt]
    · show f_X8_isInForce σ 0 x d = _
      unfold f_X8_isInForce
      rw [q_isRuleb hI.M hx, Option.bind_some, if_pos rfl, if_neg (by decide)]
theorem q_hr_1 {σ : k_S} (hz : k_Z σ 12 ≤ 12) (r : Nat) : (q_hr σ r).1 = -1 ∨ ∃ j, j < k_Z σ 12 ∧ (q_hr σ r).1 = nI j := by
  have hj : q_hr σ r = (-1, -1) ∨ _ := q_ru_j _
  rcases hj with e | ⟨j, h1, e, -⟩
  · exact Or.inl (by rw [e])
  · exact Or.inr ⟨j, h1, by rw [show q_hr σ r = (nI j, _) from e]⟩
theorem q_hp_1 {σ : k_S} (s r : Nat) : (q_hp σ s r).1 = -1 ∨ ∃ j, j < k_Z σ 15 ∧ (q_hp σ s r).1 = nI j := by
  have hj : q_hp σ s r = (-1, 0) ∨ _ := q_pr_j _
  rcases hj with e | ⟨j, h1, e, -⟩
  · exact Or.inl (by rw [e])
  · exact Or.inr ⟨j, h1, by rw [show q_hp σ s r = (nI j, _) from e]⟩
theorem g_applying {T : Nat} {σ : k_S} (hI : q_I T σ σ) (x : Int32) : q_Ok (f_L_applying σ 0 x 0) (fun τ => f_X8_applying τ 0 x) := by
  have hz := hI.H.z15
  have hz2 := hI.H.z12
  rcases q_ix x (n := k_Z σ 15) (by omega) with ⟨r, hr, rfl⟩ | hx
  · rcases q_hr_1 hz2 r with e | ⟨j, hj, e⟩
    · refine q_exc hI (k := 2) (b := 0) (by decide) ?_ ?_
      · unfold f_L_applying f_X7_applying
        rw [q_reportAt hI.H hr]
        simp only [k_bc, k_bt]
        rw [q_ruleFor hI.H, e, Option.bind_some, if_pos rfl]
        simp
      · show f_X8_applying σ 0 (nI r) = _
        unfold f_X8_applying
        have h' := hI.th (v := 0)
        rw [q_isReport h'.M hr, Option.bind_some, if_neg (by decide), q_rule h'.M (by omega) h'.hrk, ← h'.hr hr, e, Option.bind_some, if_neg (by decide), q_fails]
        rfl
    · refine q_query hI (v := nI j) ?_ (fun τ hm => ?_)
      · unfold f_L_applying f_X7_applying
        rw [q_reportAt hI.H hr]
        simp only [k_bc, k_bt]
        have : ¬ nI j = -1 := fun q => nI_pos (n := j) (by omega) (by rw [q]; decide)
        rw [q_ruleFor hI.H, e, Option.bind_some, if_neg this]
      · show f_X8_applying τ 0 (nI r) = _
        unfold f_X8_applying
        have h' := hm.th (v := 0)
        rw [q_isReport h'.M hr, Option.bind_some, if_neg (by decide), q_rule h'.M (by omega) h'.hrk, ← h'.hr hr, e, Option.bind_some, if_pos (q_0 (by omega)), Option.bind_some]
  · refine q_exc hI (k := 1) (b := 0) (by decide) ?_ ?_
    · unfold f_L_applying f_X7_applying
      rw [q_reportAtb hI.H hx]
      simp [k_bc, k_bt]
    · show f_X8_applying σ 0 x = _
      unfold f_X8_applying
      have h' := hI.th (v := 0)
      rw [q_isReportb h'.M hx, Option.bind_some, if_pos rfl, q_fails]
      rfl
theorem q_I.hc {T : Nat} {a m : k_S} (h : q_I T a m) {n : Nat} (hn : n ≤ 1000) : q_sI (fun i => q_sI (fun j => q_01 (q_hc a (nI n) i j)) i) (k_Z a 12) = q_sI (fun i => q_sI (fun j => q_01 (q_mc m (nI n) i j)) i) (k_Z a 12) := q_fd_c (fun i hi => q_fd_c (fun j hj => by
  have hj2 : j < k_Z a 12 := by omega
  obtain ⟨i1, i2, i3, -⟩ := h.Ru i hi
  obtain ⟨j1, j2, j3, -⟩ := h.Ru j hj2
  show q_01 (q_hc a (nI n) i j) = q_01 (q_mc m (nI n) i j)
  unfold q_hc q_mc
  simp only [q_hi h.Ru hi hn, q_hi h.Ru hj2 hn, i1, i2, i3, j1, j2, j3]))
theorem g_conflicts {T : Nat} {σ : k_S} (hI : q_I T σ σ) (d : Int32) : q_Ok (f_L_conflicts σ 0 d 0) (fun τ => f_X8_conflicts τ 0 d) := by
  by_cases hd : q_rw d 0 1000
  · obtain ⟨n, hn, rfl⟩ := q_rwn hd
    refine q_query hI (v := q_sI (fun i => q_sI (fun j => q_01 (q_hc σ (nI n) i j)) i) (k_Z σ 12)) ?_ (fun τ hm => ?_)
    · unfold f_L_conflicts f_X7_conflicts
      rw [(q_rwg σ hd).1]
      simp only [k_bc, k_bt]
      rw [q_conflicts hI.H, Option.bind_some]
    · show f_X8_conflicts τ 0 (nI n) = _
      unfold f_X8_conflicts
      have h' := hm.th (v := 0)
      rw [(q_rwg σ hd).2, Option.bind_some, if_neg (by decide), q_m_conflicts h'.M, Option.bind_some, h'.hc hn]
  · refine q_exc hI (k := 1) (b := 0) (by decide) ?_ ?_
    · unfold f_L_conflicts f_X7_conflicts
      rw [(q_rwb σ hd).1]
      simp [k_bc, k_bt]
    · show f_X8_conflicts σ 0 d = _
      unfold f_X8_conflicts
      rw [(q_rwb σ hd).2, Option.bind_some, if_pos rfl, q_fails]
      rfl
/-! sanctions -/
def q_eN (a : k_S) (j : Nat) : Nat := (k_I a 6 j 2).toNatClampNeg
def q_cu (a : k_S) (r : Nat) : Nat := (k_P a 5 r 9).getD 0
def q_gl (m : k_S) (r : Nat) : Prop := k_I m 38 0 r = 100 ∧ k_I m 39 0 r = 103
theorem q_incE {T : Nat} {a : k_S} (h : q_Sn T a) {j : Nat} (hj : j < k_Z a 16) {t : Nat} (ht : T ≤ t) (ht2 : t ≤ 3000) : q_inc a j (nI t) = if t < q_eN a j then 1 else 0 := by
  obtain ⟨u, s, e, h1, h2, h3, h4, h5, h6⟩ := h j hj
  unfold q_inc q_eN
  rw [h2, h3, q_c (by omega), if_neg (nI_nlt (by omega) (by omega))]
  by_cases e1 : t < e
  · rw [if_neg (nI_ge e1 (by omega)), if_pos e1]
  · rw [if_pos (nI_le (by omega) (by omega)), if_neg e1]
theorem q_sub1 {e t : Nat} (he : e ≤ 3000) (ht : t ≤ 3000) : nI e - 1 < nI t ↔ e ≤ t := by
  rw [Int32.lt_iff_toInt_lt, show nI e - 1 = nI e - nI 1 from rfl, pk_sub_toInt (by omega) (by omega), nI_toInt (by omega)]
  omega
theorem q_I.miE {T : Nat} {a m : k_S} (h : q_I T a m) {r : Nat} (hr : r < k_Z a 15) {t : Nat} (ht : T ≤ t) (ht2 : t ≤ 3000) : q_mi m r (nI t) = if k_I m 38 0 r = 100 ∧ k_I m 39 0 r = 103 then (if t < q_eN a (q_cu a r) then 1 else 0) else 0 := by
  unfold q_mi
  by_cases e1 : k_I m 38 0 r = 100
  · by_cases e2 : k_I m 39 0 r = 103
    · obtain ⟨j, hj, h1, h2, h3, h4⟩ := h.Sr r hr e1 e2
      obtain ⟨u, s, e, g1, g2, g3, g4, g5, g6⟩ := h.Sn j hj
      have hc : q_cu a r = j := by unfold q_cu; rw [h1]; rfl
      have he : q_eN a j = e := by unfold q_eN; rw [g3, q_c (by omega)]
      have e12 : k_I m 38 0 r = 100 ∧ k_I m 39 0 r = 103 := ⟨e1, e2⟩
      rw [if_pos e1, if_pos e2, if_pos e12, hc, he, ← h3, ← h4, g2, g3, if_neg (nI_nlt (by omega) (by omega))]
      by_cases e3 : t < e
      · rw [if_neg (fun q => by have := (q_sub1 (by omega) ht2).mp q; omega), if_pos e3]
      · rw [if_pos ((q_sub1 (by omega) ht2).mpr (by omega)), if_neg e3]
    · rw [if_pos e1, if_neg e2, if_neg (fun q => e2 q.2)]
  · rw [if_neg e1, if_neg (fun q => e1 q.1)]
/-- a sanction of u that includes the day -/
theorem q_I.own {T : Nat} {a m : k_S} (h : q_I T a m) {r u : Nat} (hr : r < k_Z a 15) (hu : u < 8) (hg : k_I m 38 0 r = 100 ∧ k_I m 39 0 r = 103) : q_cu a r < k_Z a 16 ∧ (k_I m 30 0 r = nI u ↔ k_P a 6 (q_cu a r) 0 = some u) ∧ k_I m 37 0 r = nI (q_eN a (q_cu a r)) := by
  have hz := h.H.z13
  obtain ⟨j, hj, h1, h2, h3, h4⟩ := h.Sr r hr hg.1 hg.2
  obtain ⟨v, hv, h5, h6⟩ := (h.rp hr).2.2.1
  obtain ⟨u', s, e, g1, g2, g3, g4, g5, g6⟩ := h.Sn j hj
  have hc : q_cu a r = j := by unfold q_cu; rw [h1]; rfl
  rw [hc]
  refine ⟨hj, ?_, ?_⟩
  · rw [h2, h5, h6, nI_eq (by omega) (by omega)]
    exact ⟨fun q => by rw [q], fun q => Option.some.inj q⟩
  · unfold q_eN
    rw [← h4, g3, q_c (by omega)]
def q_f1 (T : Nat) (a : k_S) (u j : Nat) : Nat := if k_P a 6 j 0 = some u ∧ T < q_eN a j then 1 else 0
theorem q_f1_0 {T : Nat} {a : k_S} (h : q_Sn T a) {j : Nat} (hj : j < k_Z a 16) (hd : k_I a 6 j 2 ≤ nI T) (hT : T ≤ 1000) : ¬ T < q_eN a j := by
  obtain ⟨u, s, e, h1, h2, h3, h4, h5, h6⟩ := h j hj
  unfold q_eN
  rw [h3] at hd ⊢
  rw [q_c (by omega)]
  rw [nI_leI (by omega) (by omega)] at hd
  omega
theorem q_I.ps {T : Nat} {a m : k_S} (h : q_I T a m) (u : Nat) : q_sI (fun j => if k_P a 6 j 0 = some u then q_01 (q_inc a j (nI T)) else 0) (k_Z a 16) = nI (q_sN (q_f1 T a u) (k_Z a 16)) := by
  have hT := h.Td.2.2.1
  rw [← q_sI_N]
  refine q_fd_c (fun j hj => ?_)
  show (if k_P a 6 j 0 = some u then q_01 (q_inc a j (nI T)) else 0) = nI (q_f1 T a u j)
  rw [q_incE h.Sn hj (Nat.le_refl T) (by omega)]
  unfold q_f1
  by_cases e1 : k_P a 6 j 0 = some u
  · by_cases e2 : T < q_eN a j
    · rw [if_pos e1, if_pos e2, if_pos ⟨e1, e2⟩]; rfl
    · rw [if_pos e1, if_neg e2, if_neg (fun q => e2 q.2)]; rfl
  · rw [if_neg e1, if_neg (fun q => e1 q.1)]; rfl
theorem q_I.ms {T : Nat} {a m : k_S} (h : q_I T a m) {u : Nat} (hu : u < 8) : q_sI (fun r => if k_I m 30 0 r = nI u then q_01 (q_mi m r (nI T)) else 0) (k_Z a 15) = nI (q_sN (q_f1 T a u) (k_Z a 16)) := by
  have hT := h.Td.2.2.1
  have e : q_sN (q_f1 T a u) (k_Z a 16) = q_sN (fun r => if k_I m 38 0 r = 100 ∧ k_I m 39 0 r = 103 then q_f1 T a u (q_cu a r) else 0) (k_Z a 15) :=
    h.Sd _ q_cm_n (q_f1 T a u) (fun j hj hd => if_neg (fun q => q_f1_0 h.Sn hj hd hT q.2))
  rw [e, ← q_sI_N]
  refine q_fd_c (fun r hr => ?_)
  show (if k_I m 30 0 r = nI u then q_01 (q_mi m r (nI T)) else 0) = nI (if k_I m 38 0 r = 100 ∧ k_I m 39 0 r = 103 then q_f1 T a u (q_cu a r) else 0)
  rw [h.miE hr (Nat.le_refl T) (by omega)]
  by_cases hg : k_I m 38 0 r = 100 ∧ k_I m 39 0 r = 103
  · obtain ⟨h1, h2, -⟩ := h.own hr hu hg
    rw [if_pos hg, if_pos hg]
    unfold q_f1
    by_cases e1 : k_I m 30 0 r = nI u
    · by_cases e2 : T < q_eN a (q_cu a r)
      · rw [if_pos e1, if_pos e2, if_pos ⟨h2.mp e1, e2⟩]; rfl
      · rw [if_pos e1, if_neg e2, if_neg (fun q => e2 q.2)]; rfl
    · rw [if_neg e1, if_neg (fun q => e1 (h2.mpr q.1))]; rfl
  · rw [if_neg hg, if_neg hg]
    split <;> rfl
theorem q_I.pres {T : Nat} {a m : k_S} (h : q_I T a m) (u : Nat) : f_X7_presentSanctions a 0 u = some (nI (q_sN (q_f1 T a u) (k_Z a 16))) := by
  rw [q_present h.H h.su u, h.Td.1, h.ps]
theorem q_I.mpres {T : Nat} {a m : k_S} (h : q_I T a m) {u : Nat} (hu : u < 8) : f_X8_sanctionsOf m 0 (nI u) = some (nI (q_sN (q_f1 T a u) (k_Z a 16))) := by
  unfold f_X8_sanctionsOf
  rw [q_m_sanctionsOf h.M u, Option.bind_some, h.Td.2.1, h.ms hu]
theorem g_sanctions {T : Nat} {σ : k_S} (hI : q_I T σ σ) (x : Int32) : q_Ok (f_L_sanctions σ 0 x 0) (fun τ => f_X8_sanctions τ 0 x) := by
  have hz := hI.H.z13
  rcases q_ix x (n := k_Z σ 13) (by omega) with ⟨r, hr, rfl⟩ | hx
  · refine q_query hI (v := nI (q_sN (q_f1 T σ r) (k_Z σ 16))) ?_ (fun τ hm => ?_)
    · unfold f_L_sanctions f_X7_sanctions
      rw [q_userAt hI.H hr]
      simp only [k_bc, k_bt]
      rw [hI.pres, Option.bind_some]
    · show f_X8_sanctions τ 0 (nI r) = _
      unfold f_X8_sanctions
      have h' := hm.th (v := 0)
      rw [q_isUser h'.M hr, Option.bind_some, if_neg (by decide), h'.mpres (by omega), Option.bind_some]
  · refine q_exc hI (k := 1) (b := 0) (by decide) ?_ ?_
    · unfold f_L_sanctions f_X7_sanctions
      rw [q_userAtb hI.H hx]
      simp [k_bc, k_bt]
    · show f_X8_sanctions σ 0 x = _
      unfold f_X8_sanctions
      have h' := hI.th (v := 0)
      rw [q_isUserb h'.M hx, Option.bind_some, if_pos rfl, q_fails]
      rfl
def q_f2 (T : Nat) (a : k_S) (u j : Nat) : Nat := if k_P a 6 j 0 = some u ∧ T < q_eN a j then q_eN a j else 0
theorem q_maxI {x y : Nat} (hx : x ≤ 3000) (hy : y ≤ 3000) : (if nI x < nI y then nI y else nI x) = nI (max x y) := by
  by_cases e : x < y
  · rw [if_pos (nI_lt e (by omega)), Nat.max_eq_right (by omega)]
  · rw [if_neg (nI_nlt (by omega) (by omega)), Nat.max_eq_left (by omega)]
theorem q_fm_le {f : Nat → Nat} {b : Nat} : ∀ {n : Nat}, (∀ i, i < n → f i ≤ b) → q_fd (fun x y => max x y) 0 f n ≤ b
  | 0, _ => Nat.zero_le _
  | n + 1, h => by
    show max (q_fd (fun x y => max x y) 0 f n) (f n) ≤ b
    have h1 := q_fm_le (f := f) (b := b) (n := n) (fun i hi => h i (by omega))
    have h2 := h n (by omega)
    omega
theorem q_fm_0 {f g : Nat → Nat} : ∀ {n : Nat}, (∀ i, i < n → (f i = 0 ↔ g i = 0)) → (q_sN f n = 0 ↔ q_fd (fun x y => max x y) 0 g n = 0)
  | 0, _ => ⟨fun _ => rfl, fun _ => rfl⟩
  | n + 1, h => by
    show (q_sN f n + f n = 0 ↔ max (q_fd (fun x y => max x y) 0 g n) (g n) = 0)
    have h1 := q_fm_0 (f := f) (g := g) (n := n) (fun i hi => h i (by omega))
    have h2 := h n (by omega)
    omega
theorem q_f2_le {T : Nat} {a : k_S} (h : q_Sn T a) {u j : Nat} (hj : j < k_Z a 16) : q_f2 T a u j ≤ 1060 := by
  obtain ⟨u', s, e, h1, h2, h3, h4, h5, h6⟩ := h j hj
  unfold q_f2 q_eN
  rw [h3, q_c (by omega)]
  split <;> omega
theorem q_I.hu {T : Nat} {a m : k_S} (h : q_I T a m) (u : Nat) : ∀ n, n ≤ k_Z a 16 → q_hu a u n = nI (max T (q_fd (fun x y => max x y) 0 (q_f2 T a u) n))
  | 0, _ => by
    show k_I a 0 0 8 = _
    rw [h.Td.1]
    show nI T = nI (max T 0)
    rw [Nat.max_zero]
  | n + 1, hn => by
    have hT := h.Td.2.2.1
    have ih := h.hu u n (by omega)
    have hb := q_fm_le (f := q_f2 T a u) (b := 1060) (n := n) (fun i hi => q_f2_le h.Sn (by omega))
    have hb2 := q_f2_le (u := u) h.Sn (by omega : n < k_Z a 16)
    obtain ⟨u', s, e, h1, h2, h3, h4, h5, h6⟩ := h.Sn n (by omega)
    have he : q_eN a n = e := by unfold q_eN; rw [h3, q_c (by omega)]
    show (if k_P a 6 n 0 = some u then (if q_inc a n (k_I a 0 0 8) = 0 then q_hu a u n else if q_hu a u n < k_I a 6 n 2 then k_I a 6 n 2 else q_hu a u n) else q_hu a u n) = nI (max T (max (q_fd (fun x y => max x y) 0 (q_f2 T a u) n) (q_f2 T a u n)))
    rw [h.Td.1, q_incE h.Sn (by omega) (Nat.le_refl T) (by omega), ih, h3]
    generalize q_fd (fun x y => max x y) 0 (q_f2 T a u) n = M at hb ⊢
    unfold q_f2 at hb2 ⊢
    rw [he] at hb2 ⊢
    by_cases e1 : k_P a 6 n 0 = some u
    · by_cases e2 : T < e
      · rw [if_pos e1, if_pos e2, if_neg (by decide), q_maxI (by omega) (by omega), if_pos ⟨e1, e2⟩]
        exact congrArg nI (Nat.max_assoc _ _ _)
      · rw [if_pos e1, if_neg e2, if_pos rfl, if_neg (fun q => e2 q.2), Nat.max_zero]
    · rw [if_neg e1, if_neg (fun q => e1 q.1), Nat.max_zero]
theorem q_I.mu {T : Nat} {a m : k_S} (h : q_I T a m) {u : Nat} (hu : u < 8) : ∀ n, n ≤ k_Z a 15 → q_mu m u n = nI (q_fd (fun x y => max x y) 0 (fun r => if k_I m 38 0 r = 100 ∧ k_I m 39 0 r = 103 then q_f2 T a u (q_cu a r) else 0) n)
  | 0, _ => rfl
  | n + 1, hn => by
    have hT := h.Td.2.2.1
    have ih := h.mu hu n (by omega)
    have hb := q_fm_le (f := fun r => if k_I m 38 0 r = 100 ∧ k_I m 39 0 r = 103 then q_f2 T a u (q_cu a r) else 0) (b := 1060) (n := n) (fun i hi => by
      show (if _ then _ else _) ≤ _
      by_cases hg : k_I m 38 0 i = 100 ∧ k_I m 39 0 i = 103
      · rw [if_pos hg]
        exact q_f2_le h.Sn (h.own (by omega) hu hg).1
      · rw [if_neg hg]
        omega)
    show (if k_I m 30 0 n = nI u then (if q_mi m n (k_I m 1 0 14) = 0 then q_mu m u n else if q_mu m u n < k_I m 37 0 n then k_I m 37 0 n else q_mu m u n) else q_mu m u n) = nI (max (q_fd (fun x y => max x y) 0 (fun r => if k_I m 38 0 r = 100 ∧ k_I m 39 0 r = 103 then q_f2 T a u (q_cu a r) else 0) n) (if k_I m 38 0 n = 100 ∧ k_I m 39 0 n = 103 then q_f2 T a u (q_cu a n) else 0))
    rw [h.Td.2.1, h.miE (by omega) (Nat.le_refl T) (by omega), ih]
    by_cases hg : k_I m 38 0 n = 100 ∧ k_I m 39 0 n = 103
    · obtain ⟨h1, h2, h3⟩ := h.own (by omega : n < k_Z a 15) hu hg
      have hb2 := q_f2_le (u := u) h.Sn h1
      rw [if_pos hg, if_pos hg, h3]
      unfold q_f2 at hb2 ⊢
      by_cases e1 : k_I m 30 0 n = nI u
      · by_cases e2 : T < q_eN a (q_cu a n)
        · rw [if_pos ⟨h2.mp e1, e2⟩] at hb2
          rw [if_pos e1, if_pos e2, if_neg (by decide), q_maxI (by unfold q_f2 at hb; omega) (by omega), if_pos ⟨h2.mp e1, e2⟩]
        · rw [if_pos e1, if_neg e2, if_pos rfl, if_neg (fun q => e2 q.2), Nat.max_zero]
      · rw [if_neg e1, if_neg (fun q => e1 (h2.mpr q.1)), Nat.max_zero]
    · rw [if_neg hg, if_neg hg, if_pos rfl, Nat.max_zero]
      split <;> rfl
theorem g_sanctionedUntil {T : Nat} {σ : k_S} (hI : q_I T σ σ) (x : Int32) : q_Ok (f_L_sanctionedUntil σ 0 x 0) (fun τ => f_X8_sanctionedUntil τ 0 x) := by
  have hz := hI.H.z13
  have hz6 := hI.H.z16
  have hT := hI.Td.2.2.1
  rcases q_ix x (n := k_Z σ 13) (by omega) with ⟨r, hr, rfl⟩ | hx
  · have eS : ∀ τ, q_I T σ τ → q_fd (fun x y => max x y) 0 (q_f2 T σ r) (k_Z σ 16) = q_fd (fun x y => max x y) 0 (fun i => if k_I τ 38 0 i = 100 ∧ k_I τ 39 0 i = 103 then q_f2 T σ r (q_cu σ i) else 0) (k_Z σ 15) := fun τ hm =>
      hm.Sd _ q_cm_m (q_f2 T σ r) (fun j hj hd => if_neg (fun q => q_f1_0 hI.Sn hj hd hT q.2))
    have e0 : q_sN (q_f1 T σ r) (k_Z σ 16) = 0 ↔ q_fd (fun x y => max x y) 0 (q_f2 T σ r) (k_Z σ 16) = 0 := q_fm_0 (fun i hi => by
      unfold q_f1 q_f2
      split
      · rename_i q
        have := q.2
        omega
      · exact Iff.rfl)
    have bM := q_fm_le (f := q_f2 T σ r) (b := 1060) (n := k_Z σ 16) (fun i hi => q_f2_le hI.Sn hi)
    have bS := q_sN_le (f := q_f1 T σ r) (b := 1) (n := k_Z σ 16) (fun i hi => by unfold q_f1; split <;> omega)
    by_cases e1 : q_sN (q_f1 T σ r) (k_Z σ 16) = 0
    · refine q_exc hI (k := 2) (b := 0) (by decide) ?_ ?_
      · unfold f_L_sanctionedUntil f_X7_sanctionedUntil
        rw [q_userAt hI.H hr]
        simp only [k_bc, k_bt]
        rw [hI.pres, e1, Option.bind_some, if_pos nI_0]
        simp
      · show f_X8_sanctionedUntil σ 0 (nI r) = _
        unfold f_X8_sanctionedUntil
        have h' := hI.th (v := 0)
        rw [q_isUser h'.M hr, Option.bind_some, if_neg (by decide), q_m_until h'.M, Option.bind_some, h'.mu (by omega) _ (Nat.le_refl _), ← eS _ h', e0.mp e1]
        dsimp only
        rw [if_pos nI_0, q_fails]
        rfl
    · have hpos : T < q_fd (fun x y => max x y) 0 (q_f2 T σ r) (k_Z σ 16) := by
        have key : ∀ n, q_fd (fun x y => max x y) 0 (q_f2 T σ r) n = 0 ∨ T < q_fd (fun x y => max x y) 0 (q_f2 T σ r) n := by
          intro n
          induction n with
          | zero => exact Or.inl rfl
          | succ n ih =>
            show max (q_fd (fun x y => max x y) 0 (q_f2 T σ r) n) (q_f2 T σ r n) = 0 ∨ T < max (q_fd (fun x y => max x y) 0 (q_f2 T σ r) n) (q_f2 T σ r n)
            have : q_f2 T σ r n = 0 ∨ T < q_f2 T σ r n := by
              unfold q_f2
              split
              · rename_i q; exact Or.inr q.2
              · exact Or.inl rfl
            omega
        exact (key _).resolve_left (fun q => e1 (e0.mpr q))
      refine q_query hI (v := nI (q_fd (fun x y => max x y) 0 (q_f2 T σ r) (k_Z σ 16))) ?_ (fun τ hm => ?_)
      · unfold f_L_sanctionedUntil f_X7_sanctionedUntil
        rw [q_userAt hI.H hr]
        simp only [k_bc, k_bt]
        rw [hI.pres, Option.bind_some, if_neg (nI_ne0 (by omega) (by omega)), q_until hI.H hI.su, Option.bind_some, hI.hu r _ (Nat.le_refl _), Nat.max_eq_right (by omega)]
      · show f_X8_sanctionedUntil τ 0 (nI r) = _
        unfold f_X8_sanctionedUntil
        have h' := hm.th (v := 0)
        rw [q_isUser h'.M hr, Option.bind_some, if_neg (by decide), q_m_until h'.M, Option.bind_some, h'.mu (by omega) _ (Nat.le_refl _), ← eS _ h', if_neg (nI_ne0 (by omega) (by omega))]
  · refine q_exc hI (k := 1) (b := 0) (by decide) ?_ ?_
    · unfold f_L_sanctionedUntil f_X7_sanctionedUntil
      rw [q_userAtb hI.H hx]
      simp [k_bc, k_bt]
    · show f_X8_sanctionedUntil σ 0 x = _
      unfold f_X8_sanctionedUntil
      have h' := hI.th (v := 0)
      rw [q_isUserb h'.M hx, Option.bind_some, if_pos rfl, q_fails]
      rfl
