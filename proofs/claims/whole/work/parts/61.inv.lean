/-! ===== THE PURE PART: what holds of the hall's places and of the model's ===== -/
/-- the hall's references, lists and numbers of things -/
def q_H (σ : k_S) : Prop :=
  (k_P σ 0 0 0 = some 0 ∧ k_P σ 0 0 1 = some 0 ∧ k_P σ 0 0 2 = some 0 ∧ k_P σ 0 0 3 = some 0 ∧ k_P σ 0 0 4 = some 0 ∧ k_P σ 0 0 5 = some 0 ∧ k_P σ 0 0 6 = some 0 ∧ k_P σ 0 0 7 = some 1) ∧
  (k_P σ 8 0 0 = some 0 ∧ k_P σ 8 0 1 = some 0 ∧ k_P σ 8 1 0 = some 1 ∧ k_P σ 8 1 1 = some 1) ∧
  (k_Z σ 12 ≤ 12 ∧ k_N σ 2 = k_Z σ 12) ∧ (k_Z σ 13 ≤ 8 ∧ k_N σ 3 = k_Z σ 13) ∧ (k_Z σ 14 ≤ 4 ∧ k_N σ 4 = k_Z σ 14) ∧ (k_Z σ 15 ≤ 20 ∧ k_N σ 5 = k_Z σ 15 ∧ k_N σ 9 = k_Z σ 15) ∧ (k_Z σ 16 ≤ 60 ∧ k_N σ 6 = k_Z σ 16) ∧ (k_Z σ 17 ≤ 60 ∧ k_N σ 7 = k_Z σ 17) ∧
  ∀ l j, 12 ≤ l → l ≤ 17 → j < k_Z σ l → k_P σ l 0 j = some j
theorem q_H.p0 {σ : k_S} (h : q_H σ) : k_P σ 0 0 0 = some 0 := h.1.1
theorem q_H.p1 {σ : k_S} (h : q_H σ) : k_P σ 0 0 1 = some 0 := h.1.2.1
theorem q_H.p2 {σ : k_S} (h : q_H σ) : k_P σ 0 0 2 = some 0 := h.1.2.2.1
theorem q_H.p3 {σ : k_S} (h : q_H σ) : k_P σ 0 0 3 = some 0 := h.1.2.2.2.1
theorem q_H.p4 {σ : k_S} (h : q_H σ) : k_P σ 0 0 4 = some 0 := h.1.2.2.2.2.1
theorem q_H.p5 {σ : k_S} (h : q_H σ) : k_P σ 0 0 5 = some 0 := h.1.2.2.2.2.2.1
theorem q_H.p6 {σ : k_S} (h : q_H σ) : k_P σ 0 0 6 = some 0 := h.1.2.2.2.2.2.2.1
theorem q_H.p7 {σ : k_S} (h : q_H σ) : k_P σ 0 0 7 = some 1 := h.1.2.2.2.2.2.2.2
theorem q_H.s {σ : k_S} (h : q_H σ) {s : Nat} (hs : s < 2) : k_P σ 8 s 0 = some s ∧ k_P σ 8 s 1 = some s := by
  match s, hs with
  | 0, _ => exact ⟨h.2.1.1, h.2.1.2.1⟩
  | 1, _ => exact ⟨h.2.1.2.2.1, h.2.1.2.2.2⟩
theorem q_H.z12 {σ : k_S} (h : q_H σ) : k_Z σ 12 ≤ 12 := h.2.2.1.1
theorem q_H.z13 {σ : k_S} (h : q_H σ) : k_Z σ 13 ≤ 8 := h.2.2.2.1.1
theorem q_H.z14 {σ : k_S} (h : q_H σ) : k_Z σ 14 ≤ 4 := h.2.2.2.2.1.1
theorem q_H.z15 {σ : k_S} (h : q_H σ) : k_Z σ 15 ≤ 20 := h.2.2.2.2.2.1.1
theorem q_H.z16 {σ : k_S} (h : q_H σ) : k_Z σ 16 ≤ 60 := h.2.2.2.2.2.2.1.1
theorem q_H.z17 {σ : k_S} (h : q_H σ) : k_Z σ 17 ≤ 60 := h.2.2.2.2.2.2.2.1.1
theorem q_H.n2 {σ : k_S} (h : q_H σ) : k_N σ 2 = k_Z σ 12 := h.2.2.1.2
theorem q_H.n3 {σ : k_S} (h : q_H σ) : k_N σ 3 = k_Z σ 13 := h.2.2.2.1.2
theorem q_H.n4 {σ : k_S} (h : q_H σ) : k_N σ 4 = k_Z σ 14 := h.2.2.2.2.1.2
theorem q_H.n5 {σ : k_S} (h : q_H σ) : k_N σ 5 = k_Z σ 15 := h.2.2.2.2.2.1.2.1
theorem q_H.n9 {σ : k_S} (h : q_H σ) : k_N σ 9 = k_Z σ 15 := h.2.2.2.2.2.1.2.2
theorem q_H.n6 {σ : k_S} (h : q_H σ) : k_N σ 6 = k_Z σ 16 := h.2.2.2.2.2.2.1.2
theorem q_H.n7 {σ : k_S} (h : q_H σ) : k_N σ 7 = k_Z σ 17 := h.2.2.2.2.2.2.2.1.2
theorem q_H.li {σ : k_S} (h : q_H σ) {l j : Nat} (h1 : 12 ≤ l) (h2 : l ≤ 17) (h3 : j < k_Z σ l) : k_P σ l 0 j = some j := h.2.2.2.2.2.2.2.2 l j h1 h2 h3
/-- the model's references and numbers of things -/
def q_M (R U B N : Nat) (σ : k_S) : Prop :=
  ((k_P σ 1 0 1 = some 0 ∧ k_P σ 1 0 2 = some 0 ∧ k_P σ 1 0 3 = some 0 ∧ k_P σ 1 0 4 = some 0 ∧ k_P σ 1 0 5 = some 0 ∧ k_P σ 1 0 6 = some 0 ∧ k_P σ 1 0 7 = some 0 ∧ k_P σ 1 0 8 = some 0 ∧ k_P σ 1 0 9 = some 0) ∧
   (k_P σ 1 0 15 = some 0 ∧ k_P σ 1 0 16 = some 0 ∧ k_P σ 1 0 17 = some 0 ∧ k_P σ 1 0 18 = some 0 ∧ k_P σ 1 0 19 = some 0 ∧ k_P σ 1 0 20 = some 0 ∧ k_P σ 1 0 21 = some 0 ∧ k_P σ 1 0 22 = some 0 ∧ k_P σ 1 0 23 = some 0 ∧ k_P σ 1 0 24 = some 0 ∧ k_P σ 1 0 25 = some 0 ∧ k_P σ 1 0 26 = some 0 ∧ k_P σ 1 0 27 = some 0) ∧ ∀ r, r < 20 → k_P σ 41 0 r = some r) ∧
  (k_I σ 1 0 10 = nI R ∧ k_I σ 1 0 11 = nI U ∧ k_I σ 1 0 12 = nI B ∧ k_I σ 1 0 28 = nI N) ∧ R ≤ 12 ∧ U ≤ 8 ∧ B ≤ 4 ∧ N ≤ 20
theorem q_M.p {R U B N : Nat} {σ : k_S} (h : q_M R U B N σ) : k_P σ 1 0 1 = some 0 ∧ k_P σ 1 0 2 = some 0 ∧ k_P σ 1 0 3 = some 0 ∧ k_P σ 1 0 4 = some 0 ∧ k_P σ 1 0 5 = some 0 ∧ k_P σ 1 0 6 = some 0 ∧ k_P σ 1 0 7 = some 0 ∧ k_P σ 1 0 8 = some 0 ∧ k_P σ 1 0 9 = some 0 := h.1.1
theorem q_M.q {R U B N : Nat} {σ : k_S} (h : q_M R U B N σ) : k_P σ 1 0 15 = some 0 ∧ k_P σ 1 0 16 = some 0 ∧ k_P σ 1 0 17 = some 0 ∧ k_P σ 1 0 18 = some 0 ∧ k_P σ 1 0 19 = some 0 ∧ k_P σ 1 0 20 = some 0 ∧ k_P σ 1 0 21 = some 0 ∧ k_P σ 1 0 22 = some 0 ∧ k_P σ 1 0 23 = some 0 ∧ k_P σ 1 0 24 = some 0 ∧ k_P σ 1 0 25 = some 0 ∧ k_P σ 1 0 26 = some 0 ∧ k_P σ 1 0 27 = some 0 := h.1.2.1
theorem q_M.row {R U B N : Nat} {σ : k_S} (h : q_M R U B N σ) {r : Nat} (hr : r < 20) : k_P σ 41 0 r = some r := h.1.2.2 r hr
theorem q_M.R {R U B N : Nat} {σ : k_S} (h : q_M R U B N σ) : k_I σ 1 0 10 = nI R := h.2.1.1
theorem q_M.U {R U B N : Nat} {σ : k_S} (h : q_M R U B N σ) : k_I σ 1 0 11 = nI U := h.2.1.2.1
theorem q_M.B {R U B N : Nat} {σ : k_S} (h : q_M R U B N σ) : k_I σ 1 0 12 = nI B := h.2.1.2.2.1
theorem q_M.N {R U B N : Nat} {σ : k_S} (h : q_M R U B N σ) : k_I σ 1 0 28 = nI N := h.2.1.2.2.2
theorem q_M.bR {R U B N : Nat} {σ : k_S} (h : q_M R U B N σ) : R ≤ 12 := h.2.2.1
theorem q_M.bU {R U B N : Nat} {σ : k_S} (h : q_M R U B N σ) : U ≤ 8 := h.2.2.2.1
theorem q_M.bB {R U B N : Nat} {σ : k_S} (h : q_M R U B N σ) : B ≤ 4 := h.2.2.2.2.1
theorem q_M.bN {R U B N : Nat} {σ : k_S} (h : q_M R U B N σ) : N ≤ 20 := h.2.2.2.2.2
/-- the model's places of another state are the same -/
theorem q_M.mv {R U B N : Nat} {σ τ : k_S} (h : q_M R U B N σ) (h1 : ∀ k, k_P τ 1 0 k = k_P σ 1 0 k) (h2 : ∀ k, k_P τ 41 0 k = k_P σ 41 0 k) (h3 : k_I τ 1 0 10 = k_I σ 1 0 10) (h4 : k_I τ 1 0 11 = k_I σ 1 0 11) (h5 : k_I τ 1 0 12 = k_I σ 1 0 12) (h6 : k_I τ 1 0 28 = k_I σ 1 0 28) : q_M R U B N τ := by
  unfold q_M at h ⊢
  simp only [h1, h2, h3, h4, h5, h6]
  exact h
theorem q_M.uI {R U B N : Nat} {σ : k_S} (h : q_M R U B N σ) {l i k : Nat} {v : Int32} (hk : l ≠ 1 ∨ (k ≠ 10 ∧ k ≠ 11 ∧ k ≠ 12 ∧ k ≠ 28)) : q_M R U B N (k_uI σ l i k v) :=
  h.mv (fun _ => rfl) (fun _ => rfl) (by rw [q_II, if_neg (by omega)]) (by rw [q_II, if_neg (by omega)]) (by rw [q_II, if_neg (by omega)]) (by rw [q_II, if_neg (by omega)])
theorem q_M.uJ {R U B N : Nat} {σ : k_S} (h : q_M R U B N σ) {l i k : Nat} {v : Int64} : q_M R U B N (k_uJ σ l i k v) := h
theorem q_M.uD {R U B N : Nat} {σ : k_S} (h : q_M R U B N σ) {l i k : Nat} {v : UInt64} : q_M R U B N (k_uD σ l i k v) := h
theorem q_M.uP {R U B N : Nat} {σ : k_S} (h : q_M R U B N σ) {l i k : Nat} {v : Option Nat} (hl : l ≠ 1 ∧ l ≠ 41) : q_M R U B N (k_uP σ l i k v) :=
  h.mv (fun _ => by rw [q_PP, if_neg (by omega)]) (fun _ => by rw [q_PP, if_neg (by omega)]) rfl rfl rfl rfl
theorem q_M.new {R U B N : Nat} {σ : k_S} (h : q_M R U B N σ) {l : Nat} (hl : l ≠ 1 ∧ l ≠ 41) : q_M R U B N (k_new σ l) :=
  h.mv (fun _ => by rw [q_Pn, if_neg (by omega)]) (fun _ => by rw [q_Pn, if_neg (by omega)]) (by rw [q_In, if_neg (by omega)]) (by rw [q_In, if_neg (by omega)]) (by rw [q_In, if_neg (by omega)]) (by rw [q_In, if_neg (by omega)])
theorem q_M.ladd {R U B N : Nat} {σ : k_S} (h : q_M R U B N σ) {l j : Nat} (hl : l ≠ 1 ∧ l ≠ 41) : q_M R U B N (k_ladd σ l j) :=
  h.mv (fun _ => by rw [q_Pa, if_neg (by omega)]) (fun _ => by rw [q_Pa, if_neg (by omega)]) rfl rfl rfl rfl
/-! which number an int is -/
theorem q_ix (x : Int32) {n : Nat} (hn : n ≤ 200) : (∃ j : Nat, j < n ∧ x = nI j) ∨ (x < 0 ∨ nI n ≤ x) := by
  rcases pk_ix x (n := n) (by omega) with h | h | h
  · exact Or.inr (Or.inl h)
  · exact Or.inr (Or.inr h)
  · exact Or.inl h
theorem q_btg (σ : k_S) {j n : Nat} (h : j < n) (hn : n ≤ 200) : f_X8_isBetween σ (nI j) 0 (nI n - 1) = some 1 := by
  obtain ⟨m, rfl⟩ : ∃ m, n = m + 1 := ⟨n - 1, by omega⟩
  unfold f_X8_isBetween
  rw [nI_pred, if_neg (nI_pos (by omega)), if_neg (nI_nlt (by omega) (by omega))]
theorem q_btb (σ : k_S) {x : Int32} {n : Nat} (h : x < 0 ∨ nI n ≤ x) (hn : n ≤ 200) : f_X8_isBetween σ x 0 (nI n - 1) = some 0 := by
  unfold f_X8_isBetween
  by_cases h1 : x < 0
  · rw [if_pos h1]
  · rw [if_neg h1, if_pos]
    have h2 := h.resolve_left h1
    rw [Int32.lt_iff_toInt_lt]
    rw [Int32.le_iff_toInt_le] at h2
    have e1 := pk_sub_toInt (a := n) (b := 1) (by omega) (by omega)
    have e2 := nI_toInt (n := n) (by omega)
    have e3 : nI n - 1 = nI n - nI 1 := rfl
    rw [e3, e1]
    omega
theorem q_rig (σ : k_S) {j n : Nat} (h : j < n) (hn : n ≤ 200) : f_X7_requireIndex σ (nI j) (nI n) = some (.inl ()) := by
  unfold f_X7_requireIndex
  rw [if_neg (nI_pos (by omega)), if_pos (nI_lt h (by omega))]
theorem q_rib (σ : k_S) {x : Int32} {n : Nat} (h : x < 0 ∨ nI n ≤ x) : f_X7_requireIndex σ x (nI n) = some (.inr "java/lang/IndexOutOfBoundsException") := by
  unfold f_X7_requireIndex
  by_cases h1 : x < 0
  · rw [if_pos h1]
  · rw [if_neg h1, if_neg]
    exact Int32.not_lt.mpr (h.resolve_left h1)
/-- Java's two tests of a range are one -/
def q_rw (x a b : Int32) : Prop := a ≤ x ∧ x ≤ b
theorem q_rwg (σ : k_S) {x a b : Int32} (h : q_rw x a b) : f_X7_requireWithin σ x a b = some (.inl ()) ∧ ∀ τ, f_X8_isBetween τ x a b = some 1 := by
  unfold f_X7_requireWithin f_X8_isBetween
  rw [if_neg (Int32.not_lt.mpr h.1), if_pos h.2]
  exact ⟨rfl, fun _ => by rw [if_neg (Int32.not_lt.mpr h.1), if_neg (Int32.not_lt.mpr h.2)]⟩
theorem q_rwb (σ : k_S) {x a b : Int32} (h : ¬ q_rw x a b) : f_X7_requireWithin σ x a b = some (.inr "java/lang/IllegalArgumentException") ∧ ∀ τ, f_X8_isBetween τ x a b = some 0 := by
  unfold f_X7_requireWithin f_X8_isBetween
  by_cases h1 : x < a
  · rw [if_pos h1]
    exact ⟨rfl, fun _ => by rw [if_pos h1]⟩
  · have h2 : ¬ x ≤ b := fun q => h ⟨Int32.not_lt.mp h1, q⟩
    rw [if_neg h1, if_neg h2]
    exact ⟨rfl, fun _ => by rw [if_neg h1, if_pos (Int32.not_le.mp h2)]⟩
/-! the lists' elements by their numbers -/
theorem q_ruleAt {σ : k_S} (h : q_H σ) {j : Nat} (hj : j < k_Z σ 12) : f_X7_ruleAt σ 0 (nI j) = some (.inl j) := by
  have := h.z12
  unfold f_X7_ruleAt
  rw [if_pos h.p0, q_rig σ hj (by omega)]
  show (if _ then _ else _) = _
  rw [if_pos (of_eq_true (q_g2 hj (by omega))), q_c (by omega), h.li (by omega) (by omega) hj]
  rfl
theorem q_ruleAtb {σ : k_S} (h : q_H σ) {x : Int32} (hx : x < 0 ∨ nI (k_Z σ 12) ≤ x) : f_X7_ruleAt σ 0 x = some (.inr "java/lang/IndexOutOfBoundsException") := by
  unfold f_X7_ruleAt
  rw [if_pos h.p0, q_rib σ hx]
  rfl
theorem q_userAt {σ : k_S} (h : q_H σ) {j : Nat} (hj : j < k_Z σ 13) : f_X7_userAt σ 0 (nI j) = some (.inl j) := by
  have := h.z13
  unfold f_X7_userAt
  rw [if_pos h.p1, q_rig σ hj (by omega)]
  show (if _ then _ else _) = _
  rw [if_pos (of_eq_true (q_g2 hj (by omega))), q_c (by omega), h.li (by omega) (by omega) hj]
  rfl
theorem q_userAtb {σ : k_S} (h : q_H σ) {x : Int32} (hx : x < 0 ∨ nI (k_Z σ 13) ≤ x) : f_X7_userAt σ 0 x = some (.inr "java/lang/IndexOutOfBoundsException") := by
  unfold f_X7_userAt
  rw [if_pos h.p1, q_rib σ hx]
  rfl
theorem q_reportAt {σ : k_S} (h : q_H σ) {j : Nat} (hj : j < k_Z σ 15) : f_X7_reportAt σ 0 (nI j) = some (.inl j) := by
  have := h.z15
  unfold f_X7_reportAt
  rw [if_pos h.p3, q_rig σ hj (by omega)]
  show (if _ then _ else _) = _
  rw [if_pos (of_eq_true (q_g2 hj (by omega))), q_c (by omega), h.li (by omega) (by omega) hj]
  rfl
theorem q_reportAtb {σ : k_S} (h : q_H σ) {x : Int32} (hx : x < 0 ∨ nI (k_Z σ 15) ≤ x) : f_X7_reportAt σ 0 x = some (.inr "java/lang/IndexOutOfBoundsException") := by
  unfold f_X7_reportAt
  rw [if_pos h.p3, q_rib σ hx]
  rfl
theorem q_isRule {R U B N : Nat} {σ : k_S} (h : q_M R U B N σ) {j : Nat} (hj : j < R) : f_X8_isRule σ 0 (nI j) = some 1 := by
  have := h.bR
  unfold f_X8_isRule
  rw [h.R, q_btg σ hj (by omega)]
  rfl
theorem q_isRuleb {R U B N : Nat} {σ : k_S} (h : q_M R U B N σ) {x : Int32} (hx : x < 0 ∨ nI R ≤ x) : f_X8_isRule σ 0 x = some 0 := by
  have := h.bR
  unfold f_X8_isRule
  rw [h.R, q_btb σ hx (by omega)]
  rfl
theorem q_isUser {R U B N : Nat} {σ : k_S} (h : q_M R U B N σ) {j : Nat} (hj : j < U) : f_X8_isUser σ 0 (nI j) = some 1 := by
  have := h.bU
  unfold f_X8_isUser
  rw [h.U, q_btg σ hj (by omega)]
  rfl
theorem q_isUserb {R U B N : Nat} {σ : k_S} (h : q_M R U B N σ) {x : Int32} (hx : x < 0 ∨ nI U ≤ x) : f_X8_isUser σ 0 x = some 0 := by
  have := h.bU
  unfold f_X8_isUser
  rw [h.U, q_btb σ hx (by omega)]
  rfl
theorem q_isReport {R U B N : Nat} {σ : k_S} (h : q_M R U B N σ) {j : Nat} (hj : j < N) : f_X8_isReport σ 0 (nI j) = some 1 := by
  have := h.bN
  unfold f_X8_isReport
  rw [h.N, q_btg σ hj (by omega)]
  rfl
theorem q_isReportb {R U B N : Nat} {σ : k_S} (h : q_M R U B N σ) {x : Int32} (hx : x < 0 ∨ nI N ≤ x) : f_X8_isReport σ 0 x = some 0 := by
  have := h.bN
  unfold f_X8_isReport
  rw [h.N, q_btb σ hx (by omega)]
  rfl
