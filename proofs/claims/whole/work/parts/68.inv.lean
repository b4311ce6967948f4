/-! ===== THE PURE PART: what holds between the hall (a) and the model (m) on day T ===== -/
def q_bot (B : Nat) (p : Option Nat) (b : Int32) : Prop := (p = none ∧ b = -1) ∨ ∃ j, j < B ∧ p = some j ∧ b = nI j
def q_Ru (a m : k_S) : Prop := ∀ r, r < k_Z a 12 → k_I a 2 r 0 = k_I m 20 0 r ∧ k_I a 2 r 1 = k_I m 28 0 r ∧ k_I a 2 r 2 = k_I m 21 0 r ∧ 0 ≤ k_I m 21 0 r ∧ k_I a 2 r 3 = k_I m 22 0 r ∧ (∃ d, 1 ≤ d ∧ d ≤ 60 ∧ k_I m 22 0 r = nI d) ∧ k_I a 2 r 4 = k_I m 23 0 r ∧ (∃ f, f ≤ 1000 ∧ k_I m 23 0 r = nI f) ∧ ((∃ e, e ≤ 1000 ∧ k_I m 24 0 r = nI e ∧ k_I a 2 r 5 = nI e) ∨ (k_I m 24 0 r = 2147483647 ∧ k_I a 2 r 5 = 1001))
def q_Us (a m : k_S) : Prop := ∀ u, u < k_Z a 13 → k_I a 3 u 0 = k_I m 25 0 u
def q_Bo (a m : k_S) : Prop := ∀ b, b < k_Z a 14 → k_I a 4 b 0 = k_I m 26 0 b ∧ k_I a 4 b 1 = k_I m 27 0 b ∧ 50 ≤ k_I m 27 0 b ∧ k_I m 27 0 b ≤ 100
def q_Vo (a m : k_S) : Prop := ∀ r u, r < 20 → u < 8 → (r < k_Z a 15 → k_I a 9 r u = k_I m 42 r u) ∧ (k_Z a 13 ≤ u ∨ k_Z a 15 ≤ r → k_I m 42 r u = 0)
def q_Rp (T : Nat) (a m : k_S) (r : Nat) : Prop :=
  k_I a 5 r 0 = nI r ∧ (∃ u, u < k_Z a 13 ∧ k_P a 5 r 1 = some u ∧ k_I m 29 0 r = nI u) ∧ (∃ u, u < k_Z a 13 ∧ k_P a 5 r 2 = some u ∧ k_I m 30 0 r = nI u) ∧ k_I a 5 r 3 = k_I m 31 0 r ∧ k_I a 5 r 4 = k_I m 32 0 r ∧ (∃ e, e ≤ 100 ∧ k_I m 32 0 r = nI e) ∧ k_I a 5 r 5 = k_I m 33 0 r ∧ (∃ d, d ≤ T ∧ k_I m 33 0 r = nI d) ∧ k_P a 5 r 6 = some r ∧ k_I a 5 r 7 = k_I m 38 0 r ∧ k_I a 5 r 11 = k_I m 40 0 r
/-- open; decided; under appeal; decided on appeal -/
def q_Rs (a m : k_S) (r : Nat) : Prop :=
  (k_I m 38 0 r = 111 ∧ k_P a 5 r 8 = none ∧ k_P a 5 r 9 = none ∧ k_I m 40 0 r = 45 ∧ k_I a 5 r 10 = 0 ∧ k_I a 5 r 12 = 0 ∧ k_I a 10 0 r = 45) ∨
  (k_I m 38 0 r = 100 ∧ k_I a 10 0 r = k_I m 39 0 r ∧ q_oc (k_I m 39 0 r) ∧ k_I a 11 0 r = k_I m 34 0 r + 1 ∧ (∃ n, n < 60 ∧ k_I m 34 0 r = nI n) ∧ k_I m 40 0 r = 45 ∧ k_I a 5 r 10 = 0 ∧ k_I a 5 r 12 = 0 ∧ q_bot (k_Z a 14) (k_P a 5 r 8) (k_I m 35 0 r) ∧ (k_I m 39 0 r ≠ 103 → k_P a 5 r 9 = none)) ∨
  (k_I m 38 0 r = 101 ∧ k_I a 10 0 r = 45 ∧ q_oc (k_I m 40 0 r) ∧ k_I a 5 r 10 = 1 ∧ k_I a 5 r 12 = 0 ∧ q_bot (k_Z a 14) (k_P a 5 r 8) (k_I m 35 0 r)) ∨
  (k_I m 38 0 r = 100 ∧ k_I a 10 0 r = k_I m 39 0 r ∧ q_oc (k_I m 39 0 r) ∧ k_I a 11 0 r = k_I m 34 0 r + 1 ∧ (∃ n, n < 60 ∧ k_I m 34 0 r = nI n) ∧ q_oc (k_I m 40 0 r) ∧ k_I a 5 r 10 = 1 ∧ k_I a 5 r 12 = (if k_I m 40 0 r = k_I m 39 0 r then 0 else 1) ∧ k_I m 35 0 r = -1)
def q_Re (T : Nat) (a m : k_S) : Prop := ∀ r, r < k_Z a 15 → q_Rp T a m r ∧ q_Rs a m r
def q_Ro (a : k_S) : Prop := ∀ r, k_Z a 15 ≤ r → r < 20 → k_I a 10 0 r = 45
def q_Sn (T : Nat) (a : k_S) : Prop := ∀ j, j < k_Z a 16 → ∃ u s e, k_P a 6 j 0 = some u ∧ k_I a 6 j 1 = nI s ∧ k_I a 6 j 2 = nI e ∧ s ≤ e ∧ s ≤ T ∧ e ≤ 1060
def q_Sr (a m : k_S) : Prop := ∀ r, r < k_Z a 15 → k_I m 38 0 r = 100 → k_I m 39 0 r = 103 → ∃ j, j < k_Z a 16 ∧ k_P a 5 r 9 = some j ∧ k_P a 6 j 0 = k_P a 5 r 2 ∧ k_I a 6 j 1 = k_I m 36 0 r ∧ k_I a 6 j 2 = k_I m 37 0 r
def q_Sd (T : Nat) (a m : k_S) : Prop := ∀ op : Nat → Nat → Nat, q_cm op 0 → ∀ f : Nat → Nat, (∀ j, j < k_Z a 16 → k_I a 6 j 2 ≤ nI T → f j = 0) → q_fd op 0 f (k_Z a 16) = q_fd op 0 (fun r => if k_I m 38 0 r = 100 ∧ k_I m 39 0 r = 103 then f ((k_P a 5 r 9).getD 0) else 0) (k_Z a 15)
def q_dy (T : Nat) (a : k_S) (j : Nat) : Nat := min (k_I a 6 j 2).toNatClampNeg T - (k_I a 6 j 1).toNatClampNeg
def q_Sj (T : Nat) (a m : k_S) : Prop := k_J m 1 0 32 = lN (q_sN (q_dy T a) (k_Z a 16))
def q_Ct (a m : k_S) : Prop := k_I m 1 0 30 = q_sI (fun r => if k_I m 38 0 r = 100 then (if k_I m 40 0 r = 45 then 0 else 1) else 0) (k_Z a 15) ∧ k_I m 1 0 31 = q_sI (q_mrv m) (k_Z a 15)
def q_ec (s e : Int32) : Nat := if s = 111 then 0 else if s = 101 then 2 else if e = 45 then 1 else 3
def q_De (a m : k_S) : Prop := (∃ D, D ≤ k_Z a 17 ∧ k_I m 1 0 29 = nI D) ∧ k_I a 8 0 2 = k_I m 1 0 29 ∧ k_Z a 16 ≤ k_Z a 17 ∧ k_Z a 17 = q_sN (fun r => q_ec (k_I m 38 0 r) (k_I m 40 0 r)) (k_Z a 15)
def q_hs0 (a : k_S) (n : Nat) : (Nat → Int32) × (Nat → Int32) × Int32 := q_hs a (fun _ => 45) (fun _ => 0) n
def q_Mi (a : k_S) : Prop := q_En a ∧ (q_hs0 a (k_Z a 17)).2.2 = k_I a 8 0 2 ∧ ∀ k, k < 20 → (q_hs0 a (k_Z a 17)).1 k = k_I a 10 0 k ∧ (k_I a 10 0 k ≠ 45 → (q_hs0 a (k_Z a 17)).2.1 k = k_I a 11 0 k)
def q_Td (T : Nat) (a m : k_S) : Prop := k_I a 0 0 8 = nI T ∧ k_I m 1 0 14 = nI T ∧ T ≤ 1000 ∧ k_I a 0 0 9 = k_I m 1 0 13
def q_I (T : Nat) (a m : k_S) : Prop := q_H a ∧ q_M (k_Z a 12) (k_Z a 13) (k_Z a 14) (k_Z a 15) m ∧ q_Td T a m ∧ q_Ru a m ∧ q_Us a m ∧ q_Bo a m ∧ q_Vo a m ∧ q_Re T a m ∧ q_Ro a ∧ q_Sn T a ∧ q_Sr a m ∧ q_Sd T a m ∧ q_Sj T a m ∧ q_Ct a m ∧ q_De a m ∧ q_Mi a
theorem q_I.H {T : Nat} {a m : k_S} (h : q_I T a m) : q_H a := h.1
theorem q_I.M {T : Nat} {a m : k_S} (h : q_I T a m) : q_M (k_Z a 12) (k_Z a 13) (k_Z a 14) (k_Z a 15) m := h.2.1
theorem q_I.Td {T : Nat} {a m : k_S} (h : q_I T a m) : q_Td T a m := h.2.2.1
theorem q_I.Ru {T : Nat} {a m : k_S} (h : q_I T a m) : q_Ru a m := h.2.2.2.1
theorem q_I.Us {T : Nat} {a m : k_S} (h : q_I T a m) : q_Us a m := h.2.2.2.2.1
theorem q_I.Bo {T : Nat} {a m : k_S} (h : q_I T a m) : q_Bo a m := h.2.2.2.2.2.1
theorem q_I.Vo {T : Nat} {a m : k_S} (h : q_I T a m) : q_Vo a m := h.2.2.2.2.2.2.1
theorem q_I.Re {T : Nat} {a m : k_S} (h : q_I T a m) : q_Re T a m := h.2.2.2.2.2.2.2.1
theorem q_I.Ro {T : Nat} {a m : k_S} (h : q_I T a m) : q_Ro a := h.2.2.2.2.2.2.2.2.1
theorem q_I.Sn {T : Nat} {a m : k_S} (h : q_I T a m) : q_Sn T a := h.2.2.2.2.2.2.2.2.2.1
theorem q_I.Sr {T : Nat} {a m : k_S} (h : q_I T a m) : q_Sr a m := h.2.2.2.2.2.2.2.2.2.2.1
theorem q_I.Sd {T : Nat} {a m : k_S} (h : q_I T a m) : q_Sd T a m := h.2.2.2.2.2.2.2.2.2.2.2.1
theorem q_I.Sj {T : Nat} {a m : k_S} (h : q_I T a m) : q_Sj T a m := h.2.2.2.2.2.2.2.2.2.2.2.2.1
theorem q_I.Ct {T : Nat} {a m : k_S} (h : q_I T a m) : q_Ct a m := h.2.2.2.2.2.2.2.2.2.2.2.2.2.1
theorem q_I.De {T : Nat} {a m : k_S} (h : q_I T a m) : q_De a m := h.2.2.2.2.2.2.2.2.2.2.2.2.2.2.1
theorem q_I.Mi {T : Nat} {a m : k_S} (h : q_I T a m) : q_Mi a := h.2.2.2.2.2.2.2.2.2.2.2.2.2.2.2
/-! states whose hall, or whose model, is the same -/
def q_sh (σ τ : k_S) : Prop := ∀ l, (l = 0 ∨ (2 ≤ l ∧ l ≤ 17)) → (∀ i k, k_I τ l i k = k_I σ l i k) ∧ (∀ i k, k_P τ l i k = k_P σ l i k) ∧ k_N τ l = k_N σ l ∧ k_Z τ l = k_Z σ l
def q_sm (σ τ : k_S) : Prop := (∀ i k, k ≠ 0 → k_I τ 1 i k = k_I σ 1 i k) ∧ (∀ l, 20 ≤ l → ∀ i k, k_I τ l i k = k_I σ l i k) ∧ (∀ i k, k_J τ 1 i k = k_J σ 1 i k) ∧ ∀ l, (l = 1 ∨ 20 ≤ l) → ∀ i k, k_P τ l i k = k_P σ l i k
theorem q_sh.rf {σ : k_S} : q_sh σ σ := fun _ _ => ⟨fun _ _ => rfl, fun _ _ => rfl, rfl, rfl⟩
theorem q_sm.rf {σ : k_S} : q_sm σ σ := ⟨fun _ _ _ => rfl, fun _ _ _ _ => rfl, fun _ _ => rfl, fun _ _ _ _ => rfl⟩
theorem q_sm.tr {σ τ υ : k_S} (h : q_sm σ τ) (h' : q_sm τ υ) : q_sm σ υ := ⟨fun i k hk => (h'.1 i k hk).trans (h.1 i k hk), fun l hl i k => (h'.2.1 l hl i k).trans (h.2.1 l hl i k), fun i k => (h'.2.2.1 i k).trans (h.2.2.1 i k), fun l hl i k => (h'.2.2.2 l hl i k).trans (h.2.2.2 l hl i k)⟩
theorem q_sm.thr {σ τ : k_S} (h : q_sm σ τ) {v : Int32} : q_sm σ (k_uI τ 1 0 0 v) := ⟨fun i k hk => by rw [q_II, if_neg (by omega)]; exact h.1 i k hk, fun l hl i k => by rw [q_II, if_neg (by omega)]; exact h.2.1 l hl i k, h.2.2.1, h.2.2.2⟩
theorem q_sh.uI {σ τ : k_S} (h : q_sh σ τ) {l i k : Nat} {v : Int32} (hl : l = 1 ∨ 18 ≤ l) : q_sh σ (k_uI τ l i k v) := fun l' hl' => by
  obtain ⟨h1, h2, h3, h4⟩ := h l' hl'
  exact ⟨fun i' k' => by rw [q_II, if_neg (by omega)]; exact h1 i' k', h2, h3, h4⟩
theorem q_sh.uJ {σ τ : k_S} (h : q_sh σ τ) {l i k : Nat} {v : Int64} : q_sh σ (k_uJ τ l i k v) := h
theorem q_sh.uD {σ τ : k_S} (h : q_sh σ τ) {l i k : Nat} {v : UInt64} : q_sh σ (k_uD τ l i k v) := h
theorem q_sm.uI {σ τ : k_S} (h : q_sm σ τ) {l i k : Nat} {v : Int32} (hl : l ≠ 1 ∧ l < 20) : q_sm σ (k_uI τ l i k v) := ⟨fun i k hk => by rw [q_II, if_neg (by omega)]; exact h.1 i k hk, fun l hl i k => by rw [q_II, if_neg (by omega)]; exact h.2.1 l hl i k, h.2.2.1, h.2.2.2⟩
theorem q_sm.uJ {σ τ : k_S} (h : q_sm σ τ) {l i k : Nat} {v : Int64} (hl : l ≠ 1) : q_sm σ (k_uJ τ l i k v) := ⟨h.1, h.2.1, fun i k => by rw [q_JJ, if_neg (by omega)]; exact h.2.2.1 i k, h.2.2.2⟩
theorem q_sm.uD {σ τ : k_S} (h : q_sm σ τ) {l i k : Nat} {v : UInt64} : q_sm σ (k_uD τ l i k v) := h
theorem q_sm.uP {σ τ : k_S} (h : q_sm σ τ) {l i k : Nat} {v : Option Nat} (hl : l ≠ 1 ∧ l < 20) : q_sm σ (k_uP τ l i k v) := ⟨h.1, h.2.1, h.2.2.1, fun l hl i k => by rw [q_PP, if_neg (by omega)]; exact h.2.2.2 l hl i k⟩
theorem q_sm.new {σ τ : k_S} (h : q_sm σ τ) {l : Nat} (hl : l ≠ 1 ∧ l < 20) : q_sm σ (k_new τ l) := ⟨fun i k hk => by rw [q_In, if_neg (by omega)]; exact h.1 i k hk, fun l hl i k => by rw [q_In, if_neg (by omega)]; exact h.2.1 l hl i k, fun i k => by rw [q_Jn, if_neg (by omega)]; exact h.2.2.1 i k, fun l hl i k => by rw [q_Pn, if_neg (by omega)]; exact h.2.2.2 l hl i k⟩
theorem q_sm.ladd {σ τ : k_S} (h : q_sm σ τ) {l j : Nat} (hl : l ≠ 1 ∧ l < 20) : q_sm σ (k_ladd τ l j) := ⟨fun i k hk => by rw [q_Ia]; exact h.1 i k hk, fun l hl i k => by rw [q_Ia]; exact h.2.1 l hl i k, fun i k => by rw [q_Ja]; exact h.2.2.1 i k, fun l hl i k => by rw [q_Pa, if_neg (by omega)]; exact h.2.2.2 l hl i k⟩
theorem q_I.sm {T : Nat} {a m m' : k_S} (h : q_I T a m) (s : q_sm m m') : q_I T a m' := by
  have I := s.2.1
  have I1 := fun k hk => s.1 0 k hk
  have J := s.2.2.1
  have P := s.2.2.2
  obtain ⟨h1, h2, h3, h4, h5, h6, h7, h8, h9, h10, h11, h12, h13, h14, h15, h16⟩ := h
  refine ⟨h1, h2.mv (fun _ => P 1 (by omega) _ _) (fun _ => P 41 (by omega) _ _) (I1 _ (by decide)) (I1 _ (by decide)) (I1 _ (by decide)) (I1 _ (by decide)), ?_, ?_, ?_, ?_, ?_, ?_, h9, h10, ?_, ?_, ?_, ?_, ?_, h16⟩
  · unfold q_Td at h3 ⊢
    rw [I1 14 (by decide), I1 13 (by decide)]
    exact h3
  · unfold q_Ru at h4 ⊢
    simp only [I 20 (by omega), I 28 (by omega), I 21 (by omega), I 22 (by omega), I 23 (by omega), I 24 (by omega)]
    exact h4
  · unfold q_Us at h5 ⊢
    simp only [I 25 (by omega)]
    exact h5
  · unfold q_Bo at h6 ⊢
    simp only [I 26 (by omega), I 27 (by omega)]
    exact h6
  · unfold q_Vo at h7 ⊢
    simp only [I 42 (by omega)]
    exact h7
  · unfold q_Re q_Rp q_Rs at h8 ⊢
    simp only [I 29 (by omega), I 30 (by omega), I 31 (by omega), I 32 (by omega), I 33 (by omega), I 34 (by omega), I 35 (by omega), I 38 (by omega), I 39 (by omega), I 40 (by omega)]
    exact h8
  · unfold q_Sr at h11 ⊢
    simp only [I 36 (by omega), I 37 (by omega), I 38 (by omega), I 39 (by omega)]
    exact h11
  · unfold q_Sd at h12 ⊢
    simp only [I 38 (by omega), I 39 (by omega)]
    exact h12
  · unfold q_Sj at h13 ⊢
    rw [J]
    exact h13
  · unfold q_Ct at h14 ⊢
    unfold q_mrv at h14 ⊢
    simp only [I1 30 (by decide), I1 31 (by decide), I 38 (by omega), I 39 (by omega), I 40 (by omega)]
    exact h14
  · unfold q_De at h15 ⊢
    simp only [I1 29 (by decide), I 38 (by omega), I 40 (by omega)]
    exact h15
theorem q_I.sh {T : Nat} {a a' m : k_S} (h : q_I T a m) (s : q_sh a a') : q_I T a' m := by
  have I := fun l hl => (s l hl).1
  have P := fun l hl => (s l hl).2.1
  have N := fun l hl => (s l hl).2.2.1
  have Z := fun l hl => (s l hl).2.2.2
  unfold q_I q_H q_Td q_Ru q_Us q_Bo q_Vo q_Re q_Rp q_Rs q_Ro q_Sn q_Sr q_Sd q_Sj q_dy q_Ct q_De q_Mi q_En q_hs0 q_hs q_hr q_ho at h ⊢
  simp only [I 0 (by omega), I 2 (by omega), I 3 (by omega), I 4 (by omega), I 5 (by omega), I 6 (by omega), I 7 (by omega), I 8 (by omega), I 9 (by omega), I 10 (by omega), I 11 (by omega), P 0 (by omega), P 8 (by omega), P 5 (by omega), P 6 (by omega), P 7 (by omega), N 2 (by omega), N 3 (by omega), N 4 (by omega), N 5 (by omega), N 6 (by omega), N 7 (by omega), N 9 (by omega), Z 12 (by omega), Z 13 (by omega), Z 14 (by omega), Z 15 (by omega), Z 16 (by omega), Z 17 (by omega)]
  obtain ⟨h1, h2⟩ := h
  refine ⟨⟨h1.1, h1.2.1, h1.2.2.1, h1.2.2.2.1, h1.2.2.2.2.1, h1.2.2.2.2.2.1, h1.2.2.2.2.2.2.1, h1.2.2.2.2.2.2.2.1, fun l j a1 a2 a3 => ?_⟩, h2⟩
  rw [Z l (by omega)] at a3
  rw [P l (by omega)]
  exact h1.2.2.2.2.2.2.2.2 l j a1 a2 a3
/-! what follows at once -/
theorem q_I.rp {T : Nat} {a m : k_S} (h : q_I T a m) {r : Nat} (hr : r < k_Z a 15) : q_Rp T a m r := (h.Re r hr).1
theorem q_I.rs {T : Nat} {a m : k_S} (h : q_I T a m) {r : Nat} (hr : r < k_Z a 15) : q_Rs a m r := (h.Re r hr).2
theorem q_I.nu {T : Nat} {a m : k_S} (h : q_I T a m) : q_Nu a := fun _ hr => (h.rp hr).1
theorem q_I.su {T : Nat} {a m : k_S} (h : q_I T a m) : q_Su a := fun j hj => by
  obtain ⟨u, s, e, h1, -⟩ := h.Sn j hj
  exact ⟨u, h1⟩
/-- a report's outcome as it stands -/
theorem q_I.so {T : Nat} {a m : k_S} (h : q_I T a m) {r : Nat} (hr : r < k_Z a 15) : k_I a 10 0 r = q_so m r ∧ (k_I a 10 0 r = 45 ∨ q_oc (k_I a 10 0 r)) := by
  unfold q_so
  rcases h.rs hr with q | q | q | q
  · rw [q.1, if_neg (by decide)]
    exact ⟨q.2.2.2.2.2.2, Or.inl q.2.2.2.2.2.2⟩
  · rw [q.1, if_pos rfl]
    exact ⟨q.2.1, Or.inr (by rw [q.2.1]; exact q.2.2.1)⟩
  · rw [q.1, if_neg (by decide)]
    exact ⟨q.2.1, Or.inl q.2.1⟩
  · rw [q.1, if_pos rfl]
    exact ⟨q.2.1, Or.inr (by rw [q.2.1]; exact q.2.2.1)⟩
theorem q_I.ch {T : Nat} {a m : k_S} (h : q_I T a m) : q_ch a 0 := fun r hr => by
  by_cases e : r < k_Z a 15
  · rcases (h.so e).2 with q | q
    · rw [q]; decide
    · exact q_oc_C q
  · rw [h.Ro r (by omega) hr]; decide
theorem q_I.hrk {T : Nat} {a m : k_S} (h : q_I T a m) : ∀ j, j < k_Z a 12 → 0 ≤ k_I m 21 0 j := fun j hj => (h.Ru j hj).2.2.2.1
theorem q_hi {a m : k_S} (h : q_Ru a m) {r d : Nat} (hr : r < k_Z a 12) (hd : d ≤ 1000) : q_ho a r (nI d) = q_if m r (nI d) := by
  obtain ⟨-, -, -, -, -, -, h1, -, h2⟩ := h r hr
  unfold q_ho q_if
  rw [h1]
  rcases h2 with ⟨e, h3, h4, h5⟩ | ⟨h4, h5⟩
  · rw [h4, h5]
  · rw [h4, h5]
    have e1 : ¬ (1001 : Int32) ≤ nI d := nI_ge (b := 1001) (by omega) (by omega)
    have e2 : ¬ (2147483647 : Int32) ≤ nI d := nI_ge (b := 2147483647) (by omega) (by omega)
    rw [if_neg e1, if_neg e2]
theorem q_I.hr {T : Nat} {a m : k_S} (h : q_I T a m) {r : Nat} (hr : r < k_Z a 15) : q_hr a r = q_mr (k_Z a 12) m r := by
  obtain ⟨-, -, -, h1, -, -, h2, ⟨d, h3, h4⟩, -⟩ := h.rp hr
  have hT := h.Td.2.2.1
  unfold q_hr q_mr
  refine q_ru_c (fun j hj => ⟨?_, ?_, (h.Ru j hj).2.2.1⟩)
  · show q_ho a j (k_I a 5 r 5) = q_if m j (k_I m 33 0 r)
    rw [h2, h4, q_hi h.Ru hj (by omega)]
  · show q_tl (k_I a 5 r 3) (k_I a 2 j 0) = q_tl (k_I m 31 0 r) (k_I m 20 0 j)
    rw [h1, (h.Ru j hj).1]
theorem q_I.turn {T : Nat} {a m : k_S} (h : q_I T a m) {r : Nat} (hr : r < k_Z a 15) (hs : k_I m 38 0 r = 100) : ∃ n, n < 60 ∧ k_I m 34 0 r = nI n ∧ k_I a 11 0 r = nI (n + 1) := by
  rcases h.rs hr with q | q | q | q
  · rw [q.1] at hs
    exact absurd hs (by decide)
  · obtain ⟨n, h1, h2⟩ := q.2.2.2.2.1
    exact ⟨n, h1, h2, by rw [q.2.2.2.1, h2, nI_1]⟩
  · rw [q.1] at hs
    exact absurd hs (by decide)
  · obtain ⟨n, h1, h2⟩ := q.2.2.2.2.1
    exact ⟨n, h1, h2, by rw [q.2.2.2.1, h2, nI_1]⟩
theorem q_I.hp {T : Nat} {a m : k_S} (h : q_I T a m) {r : Nat} (hr : r < k_Z a 15) : q_hp a 0 r = q_mp (k_Z a 15) m r := by
  have hz := h.H.z15
  unfold q_hp q_mp
  refine q_pr_c (h.rp hr).2.2.2.1 (by omega) (fun i hi => ⟨(h.so hi).1, fun _ => (h.rp hi).2.2.2.1⟩) (fun i j hi hj e1 e2 => ?_)
  have a1 : k_I m 38 0 i = 100 := q_so_gi (by rw [← (h.so hi).1]; exact e1)
  have a2 : k_I m 38 0 j = 100 := q_so_gi (by rw [← (h.so hj).1]; exact e2)
  obtain ⟨x, hx1, hx2, hx3⟩ := h.turn hi a1
  obtain ⟨y, hy1, hy2, hy3⟩ := h.turn hj a2
  rw [hx2, hx3, hy2, hy3, nI_leI (by omega) (by omega), nI_leI (by omega) (by omega)]
  omega
theorem q_I.hf {T : Nat} {a m : k_S} (h : q_I T a m) {r : Nat} (hr : r < k_Z a 15) (sF sA : Int32) : q_hf a 0 r sF sA = q_mf (k_Z a 12) (k_Z a 15) m r sF sA := by
  have hz := h.H.z15
  have hz2 := h.H.z12
  unfold q_hf q_mf
  rw [h.hr hr, h.hp hr]
  have e1 : q_eo (q_mp (k_Z a 15) m r).1 (fun j => k_I a 10 0 j) = q_eo (q_mp (k_Z a 15) m r).1 (q_so m) := by
    have hj : q_mp (k_Z a 15) m r = (-1, 0) ∨ _ := q_pr_j _
    unfold q_eo
    rcases hj with e | ⟨j, h1, e, -⟩
    · rw [e, if_pos (by decide), if_pos (by decide)]
    · rw [show q_mp (k_Z a 15) m r = (nI j, _) from e]
      dsimp only
      rw [if_neg (nI_pos (by omega)), if_neg (nI_pos (by omega)), q_c (by omega)]
      exact (h.so h1).1
  rw [e1]
  have hj : q_mr (k_Z a 12) m r = (-1, -1) ∨ _ := q_ru_j _
  unfold q_fo
  rcases hj with e | ⟨j, h1, e, -⟩
  · rw [e, if_pos (by decide), if_pos (by decide)]
  · rw [show q_mr (k_Z a 12) m r = (nI j, _) from e]
    dsimp only
    rw [if_neg (nI_pos (by omega)), if_neg (nI_pos (by omega)), q_c (by omega)]
    simp only [(h.Ru j h1).2.1]
/-- the weights of the votes -/
theorem q_I.w1 {T : Nat} {a m : k_S} (h : q_I T a m) {r : Nat} (hr : r < k_Z a 15) : q_sI (fun u => if (k_I a 9 r u) < 0 then 0 else (k_I a 9 r u)) 8 = q_sI (fun u => if 0 < 1 * k_I m 42 r u then 1 * k_I m 42 r u else 0) (k_Z a 13) := by
  have hz := h.H.z15
  have hz2 := h.H.z13
  have e1 : q_sI (fun u => if (k_I a 9 r u) < 0 then 0 else (k_I a 9 r u)) 8 = q_sI (fun u => if 0 < 1 * k_I m 42 r u then 1 * k_I m 42 r u else 0) 8 := q_fd_c (fun u hu => by
    rw [(h.Vo r u (by omega) hu).1 hr, q_max0, Int32.one_mul])
  rw [e1]
  obtain ⟨d, hd⟩ : ∃ d, 8 = k_Z a 13 + d := ⟨8 - k_Z a 13, by omega⟩
  have key : ∀ n, k_Z a 13 + n ≤ 8 → q_sI (fun u => if 0 < 1 * k_I m 42 r u then 1 * k_I m 42 r u else 0) (k_Z a 13 + n) = q_sI (fun u => if 0 < 1 * k_I m 42 r u then 1 * k_I m 42 r u else 0) (k_Z a 13) := by
    intro n
    induction n with
    | zero => intro _; rfl
    | succ n ih =>
      intro hn
      show q_sI _ (k_Z a 13 + n) + (if 0 < 1 * k_I m 42 r (k_Z a 13 + n) then 1 * k_I m 42 r (k_Z a 13 + n) else 0) = _
      rw [ih (by omega), (h.Vo r (k_Z a 13 + n) (by omega) (by omega)).2 (Or.inl (by omega)), if_neg (by decide), Int32.add_zero]
  rw [hd]
  exact key d (by omega)
theorem q_neg1 (x : Int32) : -1 * x = -x := by
  rw [Int32.neg_mul, Int32.one_mul]
theorem q_I.w2 {T : Nat} {a m : k_S} (h : q_I T a m) {r : Nat} (hr : r < k_Z a 15) : q_sI (fun u => if (-(k_I a 9 r u)) < 0 then 0 else (-(k_I a 9 r u))) 8 = q_sI (fun u => if 0 < -1 * k_I m 42 r u then -1 * k_I m 42 r u else 0) (k_Z a 13) := by
  have hz := h.H.z15
  have hz2 := h.H.z13
  have e1 : q_sI (fun u => if (-(k_I a 9 r u)) < 0 then 0 else (-(k_I a 9 r u))) 8 = q_sI (fun u => if 0 < -1 * k_I m 42 r u then -1 * k_I m 42 r u else 0) 8 := q_fd_c (fun u hu => by
    rw [(h.Vo r u (by omega) hu).1 hr, q_max0, q_neg1])
  rw [e1]
  obtain ⟨d, hd⟩ : ∃ d, 8 = k_Z a 13 + d := ⟨8 - k_Z a 13, by omega⟩
  have key : ∀ n, k_Z a 13 + n ≤ 8 → q_sI (fun u => if 0 < -1 * k_I m 42 r u then -1 * k_I m 42 r u else 0) (k_Z a 13 + n) = q_sI (fun u => if 0 < -1 * k_I m 42 r u then -1 * k_I m 42 r u else 0) (k_Z a 13) := by
    intro n
    induction n with
    | zero => intro _; rfl
    | succ n ih =>
      intro hn
      show q_sI _ (k_Z a 13 + n) + (if 0 < -1 * k_I m 42 r (k_Z a 13 + n) then -1 * k_I m 42 r (k_Z a 13 + n) else 0) = _
      rw [ih (by omega), (h.Vo r (k_Z a 13 + n) (by omega) (by omega)).2 (Or.inl (by omega)), if_neg (by decide), Int32.add_zero]
  rw [hd]
  exact key d (by omega)
