/-! ===== THE PURE PART: the start ===== -/
def q_i7 : k_S := ((f_X7_init (k_new q_s0 0) 0).getD ((), q_s0)).2
def q_i8 : k_S := ((f_X8_init (k_new q_i7 1) 0).getD ((), q_s0)).2
def q_is : k_S := k_new (k_new q_i8 18) 19
theorem q_i7_e : f_X7_init (k_new q_s0 0) 0 = some ((), q_i7) := by
  have h : (f_X7_init (k_new q_s0 0) 0).isSome = true := by decide +kernel
  obtain ⟨x, hx⟩ := Option.isSome_iff_exists.mp h
  unfold q_i7
  rw [hx]
  rfl
theorem q_i8_e : f_X8_init (k_new q_i7 1) 0 = some ((), q_i8) := by
  have h : (f_X8_init (k_new q_i7 1) 0).isSome = true := by decide +kernel
  obtain ⟨x, hx⟩ := Option.isSome_iff_exists.mp h
  unfold q_i8
  rw [hx]
  rfl
theorem q_is_N : k_N (k_new q_s0 0) 0 = 1 ∧ k_N q_i7 1 = 0 ∧ k_N q_i8 18 = 0 ∧ k_N (k_new q_i8 18) 19 = 0 := by decide +kernel
theorem q_is_H : q_H q_is := by
  refine ⟨by decide +kernel, by decide +kernel, by decide +kernel, by decide +kernel, by decide +kernel, by decide +kernel, by decide +kernel, by decide +kernel, fun l j h1 h2 h3 => ?_⟩
  have hz : ∀ l : Fin 18, 12 ≤ l.1 → k_Z q_is l.1 = 0 := by decide +kernel
  rw [hz ⟨l, by omega⟩ h1] at h3
  omega
theorem q_is_M : q_M 0 0 0 0 q_is := by
  have hr : ∀ r : Fin 20, k_P q_is 41 0 r.1 = some r.1 := by decide +kernel
  exact ⟨⟨by decide +kernel, by decide +kernel, fun r h => hr ⟨r, h⟩⟩, by decide +kernel, by decide, by decide, by decide, by decide⟩
theorem q_is_Z : k_Z q_is 12 = 0 ∧ k_Z q_is 13 = 0 ∧ k_Z q_is 14 = 0 ∧ k_Z q_is 15 = 0 ∧ k_Z q_is 16 = 0 ∧ k_Z q_is 17 = 0 := by decide +kernel
theorem q_is_10 : ∀ r : Fin 20, k_I q_is 10 0 r.1 = 45 := by decide +kernel
theorem q_is_42 : ∀ r : Fin 20, ∀ u : Fin 8, k_I q_is 42 r.1 u.1 = 0 := by decide +kernel
theorem q_is_1 : k_I q_is 0 0 8 = 0 ∧ k_I q_is 1 0 14 = 0 ∧ k_I q_is 0 0 9 = k_I q_is 1 0 13 ∧ k_J q_is 1 0 32 = 0 ∧ k_I q_is 1 0 30 = 0 ∧ k_I q_is 1 0 31 = 0 ∧ k_I q_is 1 0 29 = 0 ∧ k_I q_is 8 0 2 = 0 := by decide +kernel
theorem q_is_I : q_I 0 q_is q_is := by
  obtain ⟨z12, z13, z14, z15, z16, z17⟩ := q_is_Z
  obtain ⟨i8, i14, i9, j32, i30, i31, i29, i82⟩ := q_is_1
  refine ⟨q_is_H, ?_, ⟨i8, i14, by omega, i9⟩, fun r h => ?_, fun r h => ?_, fun r h => ?_, fun r u hr hu => ⟨fun h => ?_, fun _ => q_is_42 ⟨r, hr⟩ ⟨u, hu⟩⟩, fun r h => ?_, fun r _ h2 => q_is_10 ⟨r, h2⟩, fun r h => ?_, fun r h => ?_, ?_, ?_, ?_, ?_, ?_⟩
  · rw [z12, z13, z14, z15]
    exact q_is_M
  · omega
  · omega
  · omega
  · omega
  · omega
  · omega
  · omega
  · intro op hc f hf
    rw [z16, z15]
    rfl
  · unfold q_Sj
    rw [z16, j32]
    rfl
  · unfold q_Ct
    rw [z15, i30, i31]
    exact ⟨rfl, rfl⟩
  · refine ⟨⟨0, by omega, i29⟩, by rw [i82, i29], by omega, ?_⟩
    rw [z17, z15]
    rfl
  · refine ⟨fun j h => by omega, ?_, fun k hk => ?_⟩
    · rw [z17, i82]
      rfl
    · rw [z17, q_is_10 ⟨k, hk⟩]
      exact ⟨rfl, fun q => absurd rfl q⟩
