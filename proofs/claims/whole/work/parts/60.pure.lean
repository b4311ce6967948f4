/-! ===== THE PURE PART: reads through writes, sums, loops ===== -/
theorem q_II {σ : k_S} {l i k l' i' k' : Nat} {v : Int32} : k_I (k_uI σ l i k v) l' i' k' = if l' = l ∧ i' = i ∧ k' = k then v else k_I σ l' i' k' := id rfl
theorem q_IJ {σ : k_S} {l i k l' i' k' : Nat} {v : Int64} : k_I (k_uJ σ l i k v) l' i' k' = k_I σ l' i' k' := id rfl
theorem q_ID {σ : k_S} {l i k l' i' k' : Nat} {v : UInt64} : k_I (k_uD σ l i k v) l' i' k' = k_I σ l' i' k' := id rfl
theorem q_IP {σ : k_S} {l i k l' i' k' : Nat} {v : Option Nat} : k_I (k_uP σ l i k v) l' i' k' = k_I σ l' i' k' := id rfl
theorem q_In {σ : k_S} {l l' i' k' : Nat} : k_I (k_new σ l) l' i' k' = if l' = l ∧ i' = k_N σ l then 0 else k_I σ l' i' k' := id rfl
theorem q_Ia {σ : k_S} {l j l' i' k' : Nat} : k_I (k_ladd σ l j) l' i' k' = k_I σ l' i' k' := id rfl
theorem q_JI {σ : k_S} {l i k l' i' k' : Nat} {v : Int32} : k_J (k_uI σ l i k v) l' i' k' = k_J σ l' i' k' := id rfl
theorem q_JJ {σ : k_S} {l i k l' i' k' : Nat} {v : Int64} : k_J (k_uJ σ l i k v) l' i' k' = if l' = l ∧ i' = i ∧ k' = k then v else k_J σ l' i' k' := id rfl
theorem q_JD {σ : k_S} {l i k l' i' k' : Nat} {v : UInt64} : k_J (k_uD σ l i k v) l' i' k' = k_J σ l' i' k' := id rfl
theorem q_JP {σ : k_S} {l i k l' i' k' : Nat} {v : Option Nat} : k_J (k_uP σ l i k v) l' i' k' = k_J σ l' i' k' := id rfl
theorem q_Jn {σ : k_S} {l l' i' k' : Nat} : k_J (k_new σ l) l' i' k' = if l' = l ∧ i' = k_N σ l then 0 else k_J σ l' i' k' := id rfl
theorem q_Ja {σ : k_S} {l j l' i' k' : Nat} : k_J (k_ladd σ l j) l' i' k' = k_J σ l' i' k' := id rfl
theorem q_PI {σ : k_S} {l i k l' i' k' : Nat} {v : Int32} : k_P (k_uI σ l i k v) l' i' k' = k_P σ l' i' k' := id rfl
theorem q_PJ {σ : k_S} {l i k l' i' k' : Nat} {v : Int64} : k_P (k_uJ σ l i k v) l' i' k' = k_P σ l' i' k' := id rfl
theorem q_PD {σ : k_S} {l i k l' i' k' : Nat} {v : UInt64} : k_P (k_uD σ l i k v) l' i' k' = k_P σ l' i' k' := id rfl
theorem q_PP {σ : k_S} {l i k l' i' k' : Nat} {v : Option Nat} : k_P (k_uP σ l i k v) l' i' k' = if l' = l ∧ i' = i ∧ k' = k then v else k_P σ l' i' k' := id rfl
theorem q_Pn {σ : k_S} {l l' i' k' : Nat} : k_P (k_new σ l) l' i' k' = if l' = l ∧ i' = k_N σ l then none else k_P σ l' i' k' := id rfl
theorem q_Pa {σ : k_S} {l j l' i' k' : Nat} : k_P (k_ladd σ l j) l' i' k' = if l' = l ∧ i' = 0 ∧ k' = k_Z σ l then some j else k_P σ l' i' k' := id rfl
theorem q_NI {σ : k_S} {l i k l' : Nat} {v : Int32} : k_N (k_uI σ l i k v) l' = k_N σ l' := id rfl
theorem q_NJ {σ : k_S} {l i k l' : Nat} {v : Int64} : k_N (k_uJ σ l i k v) l' = k_N σ l' := id rfl
theorem q_ND {σ : k_S} {l i k l' : Nat} {v : UInt64} : k_N (k_uD σ l i k v) l' = k_N σ l' := id rfl
theorem q_NP {σ : k_S} {l i k l' : Nat} {v : Option Nat} : k_N (k_uP σ l i k v) l' = k_N σ l' := id rfl
theorem q_Nn {σ : k_S} {l l' : Nat} : k_N (k_new σ l) l' = if l' = l then k_N σ l + 1 else k_N σ l' := id rfl
theorem q_Na {σ : k_S} {l j l' : Nat} : k_N (k_ladd σ l j) l' = k_N σ l' := id rfl
theorem q_ZI {σ : k_S} {l i k l' : Nat} {v : Int32} : k_Z (k_uI σ l i k v) l' = k_Z σ l' := id rfl
theorem q_ZJ {σ : k_S} {l i k l' : Nat} {v : Int64} : k_Z (k_uJ σ l i k v) l' = k_Z σ l' := id rfl
theorem q_ZD {σ : k_S} {l i k l' : Nat} {v : UInt64} : k_Z (k_uD σ l i k v) l' = k_Z σ l' := id rfl
theorem q_ZP {σ : k_S} {l i k l' : Nat} {v : Option Nat} : k_Z (k_uP σ l i k v) l' = k_Z σ l' := id rfl
theorem q_Zn {σ : k_S} {l l' : Nat} : k_Z (k_new σ l) l' = if l' = l then 0 else k_Z σ l' := id rfl
theorem q_Za {σ : k_S} {l j l' : Nat} : k_Z (k_ladd σ l j) l' = if l' = l then k_Z σ l + 1 else k_Z σ l' := id rfl
/-! sums -/
def q_fd {A : Type} (op : A → A → A) (z : A) (f : Nat → A) : Nat → A
  | 0 => z
  | n + 1 => op (q_fd op z f n) (f n)
theorem q_fd_c {A : Type} {op : A → A → A} {z : A} {f g : Nat → A} : ∀ {n : Nat}, (∀ i, i < n → f i = g i) → q_fd op z f n = q_fd op z g n
  | 0, _ => rfl
  | n + 1, h => by
    show op (q_fd op z f n) (f n) = op (q_fd op z g n) (g n)
    rw [q_fd_c (fun i hi => h i (by omega)), h n (by omega)]
/-- a commutative sum -/
def q_cm {A : Type} (op : A → A → A) (z : A) : Prop := (∀ a b, op a b = op b a) ∧ (∀ a b c, op (op a b) c = op a (op b c)) ∧ ∀ a, op a z = a
theorem q_fd_u {A : Type} {op : A → A → A} {z : A} (hc : q_cm op z) {f g : Nat → A} {r : Nat} (h0 : f r = z) : ∀ {n : Nat}, r < n → (∀ i, i < n → i ≠ r → g i = f i) → q_fd op z g n = op (q_fd op z f n) (g r)
  | 0, h, _ => by omega
  | n + 1, h, hg => by
    show op (q_fd op z g n) (g n) = op (op (q_fd op z f n) (f n)) (g r)
    by_cases e : r = n
    · subst e
      rw [q_fd_c (f := g) (g := f) (fun i hi => hg i (by omega) (by omega)), h0, hc.2.2]
    · rw [q_fd_u hc h0 (by omega) (fun i hi hne => hg i (by omega) hne), hg n (by omega) (by omega), hc.2.1, hc.2.1, hc.1 (g r)]
theorem q_fd_z {A : Type} {op : A → A → A} {z : A} (hc : q_cm op z) {f : Nat → A} : ∀ {n : Nat}, (∀ i, i < n → f i = z) → q_fd op z f n = z
  | 0, _ => rfl
  | n + 1, h => by
    show op (q_fd op z f n) (f n) = z
    rw [q_fd_z hc (fun i hi => h i (by omega)), h n (by omega), hc.2.2]
theorem q_fd_op {A : Type} {op : A → A → A} {z : A} (hc : q_cm op z) {f g : Nat → A} : ∀ {n : Nat}, q_fd op z (fun i => op (f i) (g i)) n = op (q_fd op z f n) (q_fd op z g n)
  | 0 => (hc.2.2 z).symm
  | n + 1 => by
    show op (q_fd op z (fun i => op (f i) (g i)) n) (op (f n) (g n)) = op (op (q_fd op z f n) (f n)) (op (q_fd op z g n) (g n))
    rw [q_fd_op hc, hc.2.1, hc.2.1, ← hc.2.1 (q_fd op z g n), hc.1 (q_fd op z g n) (f n), hc.2.1 (f n)]
theorem q_cm_I : q_cm (fun a b : Int32 => a + b) 0 := ⟨Int32.add_comm, Int32.add_assoc, Int32.add_zero⟩
theorem q_cm_n : q_cm (fun a b : Nat => a + b) 0 := ⟨Nat.add_comm, Nat.add_assoc, Nat.add_zero⟩
theorem q_cm_m : q_cm (fun a b : Nat => max a b) 0 := ⟨Nat.max_comm, Nat.max_assoc, Nat.max_zero⟩
abbrev q_sI (f : Nat → Int32) (n : Nat) : Int32 := q_fd (fun a b => a + b) 0 f n
abbrev q_sN (f : Nat → Nat) (n : Nat) : Nat := q_fd (fun a b => a + b) 0 f n
theorem q_sI_N {f : Nat → Nat} : ∀ {n : Nat}, q_sI (fun i => nI (f i)) n = nI (q_sN f n)
  | 0 => rfl
  | n + 1 => by
    show q_sI (fun i => nI (f i)) n + nI (f n) = nI (q_sN f n + f n)
    rw [q_sI_N, nI_add]
theorem q_sN_le {f : Nat → Nat} {b : Nat} : ∀ {n : Nat}, (∀ i, i < n → f i ≤ b) → q_sN f n ≤ b * n
  | 0, _ => Nat.le_refl _
  | n + 1, h => by
    show q_sN f n + f n ≤ b * (n + 1)
    have := q_sN_le (f := f) (b := b) (n := n) (fun i hi => h i (by omega))
    have := h n (by omega)
    rw [Nat.mul_succ]
    omega
theorem q_sN_le2 {f g : Nat → Nat} : ∀ {n : Nat}, (∀ i, i < n → f i ≤ g i) → q_sN f n ≤ q_sN g n
  | 0, _ => Nat.le_refl _
  | n + 1, h => by
    show q_sN f n + f n ≤ q_sN g n + g n
    have := q_sN_le2 (f := f) (g := g) (n := n) (fun i hi => h i (by omega))
    have := h n (by omega)
    omega
/-! loops -/
theorem q_lp {A B : Type} (L : Nat → A → Int32 → Option B) (a : Nat → A) (v : B) (n : Nat) (hn : n < 200) (hs : ∀ t i, i < n → L (t + 1) (a i) (nI i) = L t (a (i + 1)) (nI (i + 1))) (he : ∀ t, L (t + 1) (a n) (nI n) = some v) : L 200 (a 0) 0 = some v := by
  have key : ∀ k i t, i + k = n → k < t → L t (a i) (nI i) = some v := by
    intro k
    induction k with
    | zero =>
      intro i t hi ht
      obtain ⟨u, rfl⟩ : ∃ u, t = u + 1 := ⟨t - 1, by omega⟩
      have e : i = n := by omega
      subst e
      exact he u
    | succ k ih =>
      intro i t hi ht
      obtain ⟨u, rfl⟩ : ∃ u, t = u + 1 := ⟨t - 1, by omega⟩
      rw [hs u i (by omega)]
      exact ih (i + 1) u (by omega) (by omega)
  exact key n 0 200 (by omega) (by omega)
/-! ints -/
theorem q_0 {n : Nat} (h : n < 2 ^ 31) : (0 : Int32) ≤ nI n := nI_pos' h
theorem q_c {n : Nat} (h : n < 2 ^ 31) : (nI n).toNatClampNeg = n := nI_clamp h
/-- an index in range -/
theorem q_g {n m : Nat} (h : n < m) (hm : m < 2 ^ 31) : (0 ≤ nI n ∧ (nI n).toNatClampNeg < m) = True := by
  rw [q_c (by omega)]
  exact eq_true ⟨q_0 (by omega), h⟩
theorem q_g2 {n m : Nat} (h : n < m) (hm : m ≤ 200) : (0 ≤ nI n ∧ (nI n).toNatClampNeg < m ∧ m ≤ 200) = True := by
  rw [q_c (by omega)]
  exact eq_true ⟨q_0 (by omega), h, hm⟩
theorem q_g1 {n m : Nat} (h : n < m) (hm : m < 2 ^ 31) : 0 ≤ nI n ∧ n < m := ⟨q_0 (by omega), h⟩
theorem q_nle {a b : Nat} (h : a < b) (hb : b < 2 ^ 31) : (nI b ≤ nI a) = False := eq_false (nI_ge h hb)
theorem q_nn {a : Nat} : (nI a ≤ nI a) = True := eq_true (Int32.le_refl _)
theorem q_max0 (v : Int32) : (if v < 0 then 0 else v) = (if 0 < v then v else 0) := by
  by_cases h : v < 0
  · rw [if_pos h, if_neg (fun q => Int32.lt_irrefl (Int32.lt_trans h q))]
  · rw [if_neg h]
    by_cases h2 : 0 < v
    · rw [if_pos h2]
    · rw [if_neg h2]
      exact Int32.le_antisymm (Int32.not_lt.mp h2) (Int32.not_lt.mp h)
