/-! ===== THE PURE PART: standings, the minutes gone through anew ===== -/
theorem q_enter {σ : k_S} (h : q_H σ) {s r : Nat} (hs : s < 2) (hr : r < 20) {o : Int32} (ho : k_isC o = true) : f_X5_enter σ s (nI r) o = some ((), k_uI (k_uI (k_uI σ 8 s 2 (k_I σ 8 s 2 + 1)) 10 s r o) 11 s r (k_I σ 8 s 2 + 1)) := by
  unfold f_X5_enter
  rw [q_within (σ := k_uI σ 8 s 2 (k_I σ 8 s 2 + 1)) h hs hr, Option.bind_some, if_neg (by decide), (h.s hs).1, Option.bind_some, if_pos (of_eq_true (q_g hr (by omega))), if_pos ho, (h.s hs).2, Option.bind_some, if_pos (of_eq_true (q_g hr (by omega))), q_c (by omega)]
theorem q_lift {σ : k_S} (h : q_H σ) {s r : Nat} (hs : s < 2) (hr : r < 20) : f_X5_lift σ s (nI r) = some ((), k_uI σ 10 s r 45) := by
  unfold f_X5_lift
  rw [q_within h hs hr, Option.bind_some, if_neg (by decide), (h.s hs).1, Option.bind_some, if_pos (of_eq_true (q_g hr (by omega))), q_c (by omega)]
def q_up (o : Nat → Int32) (r : Nat) (v : Int32) : Nat → Int32 := fun k => if k = r then v else o k
/-- the standing s has other outcomes, turns and number -/
def q_set (s : Nat) (σ : k_S) (o t : Nat → Int32) (m : Int32) : k_S := (fun l i k => if l = 10 ∧ i = s then o k else if l = 11 ∧ i = s then t k else if l = 8 ∧ i = s ∧ k = 2 then m else k_I σ l i k, k_J σ, k_D σ, k_P σ, k_N σ, k_Z σ)
theorem q_setI {s : Nat} {σ : k_S} {o t : Nat → Int32} {m : Int32} {l i k : Nat} : k_I (q_set s σ o t m) l i k = if l = 10 ∧ i = s then o k else if l = 11 ∧ i = s then t k else if l = 8 ∧ i = s ∧ k = 2 then m else k_I σ l i k := rfl
theorem q_setI' {s : Nat} {σ : k_S} {o t : Nat → Int32} {m : Int32} {l i k : Nat} (h10 : l ≠ 10) (h11 : l ≠ 11) (h8 : l ≠ 8) : k_I (q_set s σ o t m) l i k = k_I σ l i k := by
  rw [q_setI, if_neg (fun q => h10 q.1), if_neg (fun q => h11 q.1), if_neg (fun q => h8 q.1)]
theorem q_set_e {s : Nat} {σ τ : k_S} {o t : Nat → Int32} {m : Int32} (h1 : ∀ l i k, k_I τ l i k = if l = 10 ∧ i = s then o k else if l = 11 ∧ i = s then t k else if l = 8 ∧ i = s ∧ k = 2 then m else k_I σ l i k) (h2 : (k_J τ, k_D τ, k_P τ, k_N τ, k_Z τ) = (k_J σ, k_D σ, k_P σ, k_N σ, k_Z σ)) : τ = q_set s σ o t m :=
  Prod.ext (funext fun l => funext fun i => funext fun k => h1 l i k) h2
theorem q_set0 (s : Nat) (σ : k_S) : σ = q_set s σ (k_I σ 10 s) (k_I σ 11 s) (k_I σ 8 s 2) := q_set_e (fun l i k => by
  by_cases e1 : l = 10 ∧ i = s
  · rw [if_pos e1, e1.1, e1.2]
  · rw [if_neg e1]
    by_cases e2 : l = 11 ∧ i = s
    · rw [if_pos e2, e2.1, e2.2]
    · rw [if_neg e2]
      by_cases e3 : l = 8 ∧ i = s ∧ k = 2
      · rw [if_pos e3, e3.1, e3.2.1, e3.2.2]
      · rw [if_neg e3]) rfl
theorem q_set10 {s : Nat} {σ : k_S} {o t : Nat → Int32} {m : Int32} {r : Nat} {v : Int32} : k_uI (q_set s σ o t m) 10 s r v = q_set s σ (q_up o r v) t m := q_set_e (fun l i k => by
  by_cases e1 : l = 10 <;> by_cases e2 : i = s <;> by_cases e3 : k = r <;> simp [q_II, q_setI, q_up, e1, e2, e3]) rfl
theorem q_set11 {s : Nat} {σ : k_S} {o t : Nat → Int32} {m : Int32} {r : Nat} {v : Int32} : k_uI (q_set s σ o t m) 11 s r v = q_set s σ o (q_up t r v) m := q_set_e (fun l i k => by
  by_cases e0 : l = 10 <;> by_cases e1 : l = 11 <;> by_cases e2 : i = s <;> by_cases e3 : k = r <;> simp_all [q_II, q_setI, q_up]) rfl
theorem q_set8 {s : Nat} {σ : k_S} {o t : Nat → Int32} {m v : Int32} : k_uI (q_set s σ o t m) 8 s 2 v = q_set s σ o t v := q_set_e (fun l i k => by
  by_cases e0 : l = 10 <;> by_cases e1 : l = 11 <;> by_cases e2 : i = s <;> by_cases e3 : k = 2 <;> by_cases e4 : l = 8 <;> simp_all [q_II, q_setI]) rfl
theorem q_set_H {s : Nat} {σ : k_S} {o t : Nat → Int32} {m : Int32} (h : q_H σ) : q_H (q_set s σ o t m) := h
theorem q_wipe {σ : k_S} {s : Nat} (hp : k_P σ 8 s 0 = some s) : f_X5_wipe σ s = some ((), q_set s σ (fun k => if k < 20 then 45 else k_I σ 10 s k) (k_I σ 11 s) 0) := by
  unfold f_X5_wipe
  rw [show f_X5_wipe_l1 200 s σ 0 = some (nI 20, q_set s σ (fun k => if k < 20 then 45 else k_I σ 10 s k) (k_I σ 11 s) (k_I σ 8 s 2)) from by
    have e0 : σ = q_set s σ (fun k => if k < 0 then 45 else k_I σ 10 s k) (k_I σ 11 s) (k_I σ 8 s 2) := (q_set0 s σ).trans (congrArg (fun o => q_set s σ o (k_I σ 11 s) (k_I σ 8 s 2)) (funext fun k => (if_neg (by omega)).symm))
    have key := q_lp (fun t (a : k_S) i => f_X5_wipe_l1 t s a i) (fun i => q_set s σ (fun k => if k < i then 45 else k_I σ 10 s k) (k_I σ 11 s) (k_I σ 8 s 2)) (nI 20, q_set s σ (fun k => if k < 20 then 45 else k_I σ 10 s k) (k_I σ 11 s) (k_I σ 8 s 2)) 20 (by omega) (fun t i hi => by
      show f_X5_wipe_l1 (t + 1) s (q_set s σ _ _ _) (nI i) = f_X5_wipe_l1 t s (q_set s σ _ _ _) (nI (i + 1))
      have e : ¬ (20 : Int32) ≤ nI i := nI_ge (b := 20) hi (by omega)
      rw [f_X5_wipe_l1, show k_P (q_set s σ (fun k => if k < i then 45 else k_I σ 10 s k) (k_I σ 11 s) (k_I σ 8 s 2)) 8 s 0 = some s from hp, Option.bind_some, if_neg e, if_pos (of_eq_true (q_g hi (by omega))), q_c (by omega), nI_succ, q_set10]
      refine congrArg (fun o => f_X5_wipe_l1 t s (q_set s σ o (k_I σ 11 s) (k_I σ 8 s 2)) (nI i + 1)) (funext fun k => ?_)
      show (if k = i then 45 else if k < i then 45 else k_I σ 10 s k) = (if k < i + 1 then 45 else k_I σ 10 s k)
      by_cases e1 : k = i
      · rw [if_pos e1, if_pos (by omega)]
      · rw [if_neg e1]
        by_cases e2 : k < i
        · rw [if_pos e2, if_pos (by omega)]
        · rw [if_neg e2, if_neg (by omega)]) (fun t => by
      show f_X5_wipe_l1 (t + 1) s (q_set s σ _ _ _) (nI 20) = _
      rw [f_X5_wipe_l1, show k_P (q_set s σ (fun k => if k < 20 then 45 else k_I σ 10 s k) (k_I σ 11 s) (k_I σ 8 s 2)) 8 s 0 = some s from hp, Option.bind_some, if_pos (by decide)])
    exact (congrArg (fun z => f_X5_wipe_l1 200 s z 0) e0).trans key]
  rw [Option.bind_some, q_set8]
def q_cl (ru : Int32) (fb : Nat → Int32) : Int32 := if ru < 0 then 110 else if fb ru.toNatClampNeg = 0 then 119 else 0
def q_fc (c e sF sA : Int32) : Int32 := if c = 110 then 110 else if c = 119 then 119 else if sF + (if e = 103 then 5 else 0) ≤ sA + (if e = 105 then 5 else 0) then 105 else 103
theorem q_fo_fc {ru : Int32} {fb : Nat → Int32} {e sF sA : Int32} : q_fo ru fb e sF sA = q_fc (q_cl ru fb) e sF sA := by
  unfold q_fo q_fc q_cl
  by_cases e1 : ru < 0
  · rw [if_pos e1, if_pos e1, if_pos rfl]
  · rw [if_neg e1, if_neg e1]
    by_cases e2 : fb ru.toNatClampNeg = 0
    · rw [if_pos e2, if_pos e2, if_neg (by decide), if_pos rfl]
    · have k1 : ¬ (0 : Int32) = 110 := by decide
      have k2 : ¬ (0 : Int32) = 119 := by decide
      rw [if_neg e2, if_neg e2, if_neg k1, if_neg k2]
def q_oc (o : Int32) : Prop := o = 103 ∨ o = 105 ∨ o = 110 ∨ o = 119
theorem q_fc_oc {c e sF sA : Int32} : q_oc (q_fc c e sF sA) := by
  unfold q_fc
  by_cases h1 : c = 110
  · rw [if_pos h1]
    exact Or.inr (Or.inr (Or.inl rfl))
  · rw [if_neg h1]
    by_cases h2 : c = 119
    · rw [if_pos h2]
      exact Or.inr (Or.inr (Or.inr rfl))
    · rw [if_neg h2]
      by_cases h3 : sF + (if e = 103 then 5 else 0) ≤ sA + (if e = 105 then 5 else 0)
      · rw [if_pos h3]
        exact Or.inr (Or.inl rfl)
      · rw [if_neg h3]
        exact Or.inl rfl
theorem q_oc_C {o : Int32} (h : q_oc o) : k_isC o = true := by
  rcases h with rfl | rfl | rfl | rfl <;> decide
/-- all decisions and appeals gone through: outcomes, turns, number -/
def q_rs (cl fa : Nat → Int32) (rp : Nat → Nat) (ap sf sa : Nat → Int32) (o0 t0 : Nat → Int32) : Nat → (Nat → Int32) × (Nat → Int32) × Int32
  | 0 => (o0, t0, 0)
  | j + 1 =>
    if ap j = 0 then
      (q_up (q_rs cl fa rp ap sf sa o0 t0 j).1 (rp j) (q_fc (cl (rp j)) (q_eo (q_pr (rp j) fa (q_rs cl fa rp ap sf sa o0 t0 j).1 (q_rs cl fa rp ap sf sa o0 t0 j).2.1 20).1 (q_rs cl fa rp ap sf sa o0 t0 j).1) (sf j) (sa j)),
       q_up (q_rs cl fa rp ap sf sa o0 t0 j).2.1 (rp j) ((q_rs cl fa rp ap sf sa o0 t0 j).2.2 + 1), (q_rs cl fa rp ap sf sa o0 t0 j).2.2 + 1)
    else (q_up (q_rs cl fa rp ap sf sa o0 t0 j).1 (rp j) 45, (q_rs cl fa rp ap sf sa o0 t0 j).2.1, (q_rs cl fa rp ap sf sa o0 t0 j).2.2)
/-- what goes through does not depend on stale turns, nor on what no entry speaks of -/
theorem q_rs_c {cl fa cl' fa' : Nat → Int32} {rp rp' : Nat → Nat} {ap sf sa ap' sf' sa' o0 t0 o0' t0' : Nat → Int32} {N : Nat} (hN : N ≤ 20) (ho : ∀ k, k < 20 → o0 k = 45) (ho' : ∀ k, k < 20 → o0' k = 45) (hc : ∀ r, r < N → cl r = cl' r ∧ fa r = fa' r) : ∀ {n : Nat}, (∀ j, j < n → rp j < N ∧ rp j = rp' j ∧ ap j = ap' j ∧ sf j = sf' j ∧ sa j = sa' j) →
    (∀ k, k < 20 → (q_rs cl fa rp ap sf sa o0 t0 n).1 k = (q_rs cl' fa' rp' ap' sf' sa' o0' t0' n).1 k ∧ (N ≤ k → (q_rs cl fa rp ap sf sa o0 t0 n).1 k = 45) ∧ ((q_rs cl fa rp ap sf sa o0 t0 n).1 k ≠ 45 → (q_rs cl fa rp ap sf sa o0 t0 n).2.1 k = (q_rs cl' fa' rp' ap' sf' sa' o0' t0' n).2.1 k) ∧ ((q_rs cl fa rp ap sf sa o0 t0 n).1 k = 45 ∨ q_oc ((q_rs cl fa rp ap sf sa o0 t0 n).1 k))) ∧ (q_rs cl fa rp ap sf sa o0 t0 n).2.2 = (q_rs cl' fa' rp' ap' sf' sa' o0' t0' n).2.2
  | 0, _ => ⟨fun k hk => ⟨(ho k hk).trans (ho' k hk).symm, fun _ => ho k hk, fun q => absurd (ho k hk) q, Or.inl (ho k hk)⟩, rfl⟩
  | n + 1, h => by
    obtain ⟨ih, ihm⟩ := q_rs_c (n := n) (t0 := t0) (t0' := t0') hN ho ho' hc (fun j hj => h j (by omega))
    obtain ⟨h1, h2, h3, h4, h5⟩ := h n (by omega)
    unfold q_rs
    rw [← h2, ← h3, ← h4, ← h5]
    generalize q_rs cl fa rp ap sf sa o0 t0 n = p at ih ihm ⊢
    generalize q_rs cl' fa' rp' ap' sf' sa' o0' t0' n = p' at ih ihm ⊢
    by_cases e : ap n = 0
    · rw [if_pos e, if_pos e]
      have e1 : q_pr (rp n) fa p.1 p.2.1 20 = q_pr (rp n) fa' p'.1 p'.2.1 20 := by
        have g45 : ∀ k, q_gi (p.1 k) ≠ 0 → p.1 k ≠ 45 := fun k q e => q (by rw [e]; decide)
        refine q_pr_c (hc _ h1).2 (by omega) (fun i hi => ⟨(ih i hi).1, fun q => (hc i ?_).2⟩) (fun i j hi hj q1 q2 => ?_)
        · exact Classical.byContradiction fun q3 => g45 i q ((ih i hi).2.1 (by omega))
        · rw [(ih i hi).2.2.1 (g45 i q1), (ih j hj).2.2.1 (g45 j q2)]
      have e2 : q_eo (q_pr (rp n) fa p.1 p.2.1 20).1 p.1 = q_eo (q_pr (rp n) fa' p'.1 p'.2.1 20).1 p'.1 := by
        rw [← e1]
        unfold q_eo
        have hj : q_pr (rp n) fa p.1 p.2.1 20 = (-1, 0) ∨ _ := q_pr_j _
        rcases hj with e3 | ⟨j, hj1, e3, -⟩
        · rw [e3, if_pos (by decide), if_pos (by decide)]
        · rw [e3]
          dsimp only
          rw [if_neg (nI_pos (by omega)), if_neg (nI_pos (by omega)), q_c (by omega)]
          exact (ih j hj1).1
      rw [← e2, ← (hc _ h1).1, ← ihm]
      refine ⟨fun k hk => ?_, rfl⟩
      show q_up _ _ _ k = q_up _ _ _ k ∧ (N ≤ k → q_up _ _ _ k = 45) ∧ (q_up _ _ _ k ≠ 45 → q_up _ _ _ k = q_up _ _ _ k) ∧ (q_up _ _ _ k = 45 ∨ q_oc (q_up _ _ _ k))
      unfold q_up
      by_cases e3 : k = rp n
      · rw [if_pos e3, if_pos e3, if_pos e3, if_pos e3]
        exact ⟨rfl, fun q => by omega, fun _ => rfl, Or.inr q_fc_oc⟩
      · rw [if_neg e3, if_neg e3, if_neg e3, if_neg e3]
        exact ih k hk
    · rw [if_neg e, if_neg e]
      refine ⟨fun k hk => ?_, ihm⟩
      show q_up _ _ _ k = q_up _ _ _ k ∧ (N ≤ k → q_up _ _ _ k = 45) ∧ (q_up _ _ _ k ≠ 45 → _) ∧ (q_up _ _ _ k = 45 ∨ q_oc (q_up _ _ _ k))
      unfold q_up
      by_cases e3 : k = rp n
      · rw [if_pos e3, if_pos e3]
        exact ⟨rfl, fun _ => rfl, fun q => absurd rfl q, Or.inl rfl⟩
      · rw [if_neg e3, if_neg e3]
        exact ih k hk
/-- the minutes of a state -/
def q_hs (σ : k_S) (o0 t0 : Nat → Int32) (n : Nat) : (Nat → Int32) × (Nat → Int32) × Int32 :=
  q_rs (fun r => q_cl (q_hr σ r).1 (fun j => k_I σ 2 j 1)) (fun r => k_I σ 5 r 3) (fun j => (k_P σ 7 j 0).getD 0) (fun j => k_I σ 7 j 1) (fun j => k_I σ 7 j 2) (fun j => k_I σ 7 j 3) o0 t0 n
theorem q_hs_s (σ : k_S) (o0 t0 : Nat → Int32) (j : Nat) : q_hs σ o0 t0 (j + 1) = (if k_I σ 7 j 1 = 0 then (q_up (q_hs σ o0 t0 j).1 ((k_P σ 7 j 0).getD 0) (q_fc (q_cl (q_hr σ ((k_P σ 7 j 0).getD 0)).1 (fun j => k_I σ 2 j 1)) (q_eo (q_pr ((k_P σ 7 j 0).getD 0) (fun r => k_I σ 5 r 3) (q_hs σ o0 t0 j).1 (q_hs σ o0 t0 j).2.1 20).1 (q_hs σ o0 t0 j).1) (k_I σ 7 j 2) (k_I σ 7 j 3)), q_up (q_hs σ o0 t0 j).2.1 ((k_P σ 7 j 0).getD 0) ((q_hs σ o0 t0 j).2.2 + 1), (q_hs σ o0 t0 j).2.2 + 1) else (q_up (q_hs σ o0 t0 j).1 ((k_P σ 7 j 0).getD 0) 45, (q_hs σ o0 t0 j).2.1, (q_hs σ o0 t0 j).2.2)) := rfl
/-- entries speak of reports -/
def q_En (σ : k_S) : Prop := ∀ j, j < k_Z σ 17 → ∃ r, r < k_Z σ 15 ∧ k_P σ 7 j 0 = some r
def q_Nu (σ : k_S) : Prop := ∀ r, r < k_Z σ 15 → k_I σ 5 r 0 = nI r
theorem q_anew {σ : k_S} (h : q_H σ) (hE : q_En σ) (hn : q_Nu σ) : ∃ (o t : Nat → Int32) (m : Int32), f_X7_settleAllAnew σ 0 = some ((), q_set 1 σ o t m) ∧ m = (q_hs σ (fun _ => 45) (fun _ => 0) (k_Z σ 17)).2.2 ∧ ∀ k, k < 20 → o k = (q_hs σ (fun _ => 45) (fun _ => 0) (k_Z σ 17)).1 k ∧ (o k = 45 ∨ q_oc (o k)) := by
  have hz := h.z17
  have hz5 := h.z15
  let o0 : Nat → Int32 := fun k => if k < 20 then 45 else k_I σ 10 1 k
  let t0 : Nat → Int32 := k_I σ 11 1
  have ho0 : ∀ k, k < 20 → o0 k = 45 := fun k hk => if_pos hk
  have hrp : ∀ j, j < k_Z σ 17 → (k_P σ 7 j 0).getD 0 < k_Z σ 15 := fun j hj => by
    obtain ⟨r, h1, h2⟩ := hE j hj
    rw [h2]
    exact h1
  have C : ∀ n, n ≤ k_Z σ 17 → _ := fun n hn' => q_rs_c (cl := fun r => q_cl (q_hr σ r).1 (fun j => k_I σ 2 j 1)) (fa := fun r => k_I σ 5 r 3) (rp := fun j => (k_P σ 7 j 0).getD 0) (ap := fun j => k_I σ 7 j 1) (sf := fun j => k_I σ 7 j 2) (sa := fun j => k_I σ 7 j 3) (o0 := o0) (t0 := t0) (t0' := fun _ => 0) (o0' := fun _ => 45) hz5 ho0 (fun _ _ => rfl) (fun r _ => ⟨rfl, rfl⟩) (n := n) (fun j hj => ⟨hrp j (by omega), rfl, rfl, rfl, rfl⟩)
  refine ⟨(q_hs σ o0 t0 (k_Z σ 17)).1, (q_hs σ o0 t0 (k_Z σ 17)).2.1, (q_hs σ o0 t0 (k_Z σ 17)).2.2, ?_, (C _ (Nat.le_refl _)).2, fun k hk => ⟨((C _ (Nat.le_refl _)).1 k hk).1, ((C _ (Nat.le_refl _)).1 k hk).2.2.2⟩⟩
  unfold f_X7_settleAllAnew
  rw [h.p7, Option.bind_some, q_wipe (h.s (by omega)).1, Option.bind_some]
  rw [show f_X7_settleAllAnew_l1 200 0 (q_set 1 σ o0 t0 0) 0 = some (nI (k_Z σ 17), q_set 1 σ (q_hs σ o0 t0 (k_Z σ 17)).1 (q_hs σ o0 t0 (k_Z σ 17)).2.1 (q_hs σ o0 t0 (k_Z σ 17)).2.2) from
    q_lp (fun t (a : k_S) i => f_X7_settleAllAnew_l1 t 0 a i) (fun j => q_set 1 σ (q_hs σ o0 t0 j).1 (q_hs σ o0 t0 j).2.1 (q_hs σ o0 t0 j).2.2) _ (k_Z σ 17) (by omega) (fun t j hj => by
      show f_X7_settleAllAnew_l1 (t + 1) 0 (q_set 1 σ (q_hs σ o0 t0 j).1 (q_hs σ o0 t0 j).2.1 (q_hs σ o0 t0 j).2.2) (nI j) = f_X7_settleAllAnew_l1 t 0 (q_set 1 σ (q_hs σ o0 t0 (j + 1)).1 (q_hs σ o0 t0 (j + 1)).2.1 (q_hs σ o0 t0 (j + 1)).2.2) (nI (j + 1))
      have Cj := C j (by omega)
      obtain ⟨r, hr1, hr2⟩ := hE j hj
      have e9 : (k_P σ 7 j 0).getD 0 = r := by rw [hr2]; rfl
      rw [q_hs_s]
      generalize hp : q_hs σ o0 t0 j = p
      have hp' := hp
      unfold q_hs at hp'
      rw [hp'] at Cj
      rw [f_X7_settleAllAnew_l1]
      have hH : q_H (q_set 1 σ p.1 p.2.1 p.2.2) := h
      rw [if_pos hH.p5, show k_Z (q_set 1 σ p.1 p.2.1 p.2.2) 17 = k_Z σ 17 from rfl, if_neg (nI_ge hj (by omega)), if_pos (of_eq_true (q_g2 hj (by omega))), q_c (by omega), hH.li (by omega) (by omega) hj, Option.bind_some, show k_P (q_set 1 σ p.1 p.2.1 p.2.2) 7 j 0 = some r from hr2, Option.bind_some, show k_I (q_set 1 σ p.1 p.2.1 p.2.2) 7 j 1 = k_I σ 7 j 1 from rfl, hH.p7, Option.bind_some, nI_succ, show k_I (q_set 1 σ p.1 p.2.1 p.2.2) 5 r 0 = nI r from hn r hr1]
      by_cases e : k_I σ 7 j 1 = 0
      · rw [if_pos e, if_pos e]
        have hch : q_ch (q_set 1 σ p.1 p.2.1 p.2.2) 1 := fun k hk => by
          show k_isC (p.1 k) = true
          rcases (Cj.1 k hk).2.2.2 with q | q
          · rw [q]; decide
          · exact q_oc_C q
        have hpr : (q_hp (q_set 1 σ p.1 p.2.1 p.2.2) 1 r) = q_pr r (fun r => k_I σ 5 r 3) p.1 p.2.1 20 := by
          obtain ⟨d, hd⟩ : ∃ d, 20 = k_Z σ 15 + d := ⟨20 - k_Z σ 15, by omega⟩
          rw [hd]
          exact (q_pr_x (n := k_Z σ 15) (fun i h1 h2 => by
            show q_gi (p.1 i) = 0
            rw [(Cj.1 i (by omega)).2.1 h1]
            decide)).symm
        have ho : q_hf (q_set 1 σ p.1 p.2.1 p.2.2) 1 r (k_I σ 7 j 2) (k_I σ 7 j 3) = q_fc (q_cl (q_hr σ r).1 (fun j => k_I σ 2 j 1)) (q_eo (q_pr r (fun r => k_I σ 5 r 3) p.1 p.2.1 20).1 p.1) (k_I σ 7 j 2) (k_I σ 7 j 3) := by
          unfold q_hf
          rw [hpr, q_fo_fc]
          rfl
        rw [q_findOutcome hH (by omega) hch (by omega) (hn r hr1), Option.bind_some, show k_I (q_set 1 σ p.1 p.2.1 p.2.2) 7 j 2 = k_I σ 7 j 2 from rfl, show k_I (q_set 1 σ p.1 p.2.1 p.2.2) 7 j 3 = k_I σ 7 j 3 from rfl, ho, q_enter hH (by omega) (by omega) (q_oc_C q_fc_oc), Option.bind_some, show k_I (q_set 1 σ p.1 p.2.1 p.2.2) 8 1 2 = p.2.2 from rfl, q_set8, q_set10, q_set11, e9]
      · rw [if_neg e, if_neg e, Option.bind_some, q_lift hH (by omega) (by omega), Option.bind_some, q_set10, e9]) (fun t => by
      show f_X7_settleAllAnew_l1 (t + 1) 0 (q_set 1 σ _ _ _) (nI (k_Z σ 17)) = _
      rw [f_X7_settleAllAnew_l1, if_pos (q_set_H h).p5, show k_Z (q_set 1 σ (q_hs σ o0 t0 (k_Z σ 17)).1 (q_hs σ o0 t0 (k_Z σ 17)).2.1 (q_hs σ o0 t0 (k_Z σ 17)).2.2) 17 = k_Z σ 17 from rfl, if_pos (Int32.le_refl _)])]
  rfl
