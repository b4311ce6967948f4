/-! ===== THE LAW'S WALK: all operations, the whole ===== -/
theorem w_step (Ln i : Nat) (hL : Ln ≤ 3072) (hi : i ≤ 3078) (h : ¬ nI Ln - 6 < nI i) : i + 6 ≤ Ln := by
  have e1 : (nI Ln - 6).toInt = (Ln : Int) - 6 := by
    rw [Int32.toInt_sub, nI_toInt (by omega), show (6 : Int32).toInt = 6 from rfl]
    apply Int.bmod_eq_of_le_mul_two <;> omega
  have e2 : (nI i).toInt = (i : Int) := nI_toInt (by omega)
  have h2 : ¬ (nI Ln - 6).toInt < (nI i).toInt := fun q => h (Int32.lt_iff_toInt_lt.mpr q)
  omega
theorem w_loop {X : k_X} {la : Launch} {G : k_G} {σ0 : k_S} {nm : String} {b Ln : Nat} {xs : Nat → Int32} (C : w_C X la G σ0 nm b Ln xs)
    (Z : ∀ (σ : k_S) (k n : Nat) (L : List (Option k_AV)), k ≤ 603072 → n ≤ 7198825 → k_W X σ k n 2118 L [k_i 1]) :
    ∀ (r : Nat) (T : Nat) (σ : k_S) (k n i : Nat), q_I T σ σ → i ≤ 3078 → Ln < i + 6 + 6 * r → k + 12 * r ≤ 603072 → n + 958 * r ≤ 7198825 → k_W X σ k n 28 (w_L b i none none none) [] := by
  obtain ⟨hla, h, hMe, hX, hbl, hbA, hLn⟩ := id C
  intro r
  induction r with
  | zero =>
    intro T σ k n i hI hi hr hk hn
    refine r_iload h dL_law_28 rfl ?_
    refine r_aload_nR h dL_law_30 rfl ?_
    refine r_slen h hMe hX hbl hbA dL_law_31 ?_
    refine r_bipush (v := 6) h dL_law_32 (by decide) ?_
    refine r_isub h dL_law_34 ?_
    refine r_icmp_gt (tgt := 2117) h dL_law_35 (by decide) (fun _ => ?_) (fun c => ?_)
    · refine r_iconst (v := 1) h dL_law_2117 (by decide) ?_
      exact Z σ k n _ (by omega) (by omega)
    · exact absurd (w_step Ln i hLn hi c) (by omega)
  | succ r ih =>
    intro T σ k n i hI hi hr hk hn
    refine r_iload h dL_law_28 rfl ?_
    refine r_aload_nR h dL_law_30 rfl ?_
    refine r_slen h hMe hX hbl hbA dL_law_31 ?_
    refine r_bipush (v := 6) h dL_law_32 (by decide) ?_
    refine r_isub h dL_law_34 ?_
    refine r_icmp_gt (tgt := 2117) h dL_law_35 (by decide) (fun _ => ?_) (fun c => ?_)
    · refine r_iconst (v := 1) h dL_law_2117 (by decide) ?_
      exact Z σ k n _ (by omega) (by omega)
    · have hi6 := w_step Ln i hLn hi c
      have hk1 : k + 12 ≤ 603072 := by omega
      have hn1 : n + 958 ≤ 7198825 := Nat.le_trans (Nat.add_le_add_left (Nat.le_mul_of_pos_right 958 (Nat.succ_pos r)) n) hn
      refine w_op C hI hi6 hk1 hn1 (fun T2 σ2 k2 n2 hI2 hk2 hn2 => ?_)
      refine r_iinc (v := nI (i + 6)) (L' := w_L b (i + 6) none none none) h dL_law_2111 rfl (nI_add i 6) (by decide) rfl ?_
      refine r_goto (tgt := 28) h dL_law_2114 (by decide) ?_
      exact ih T2 σ2 k2 n2 (i + 6) hI2 (by omega) (by omega) (by omega) (by omega)
theorem kn_L_8 : k_Nw RL 8 0 8 10 := ⟨RX7, TX7, tyX7, rfl, rfl, rfl, kw_8, wd_31, wd_32, wd_1, tyX7_ok, by decide +kernel⟩
theorem kn_L_120 : k_Nw RL 120 1 9 33 := ⟨RX8, TX8, tyX8, rfl, rfl, rfl, kw_9, wd_938, wd_939, wd_6, tyX8_ok, by decide +kernel⟩
theorem w_all {X : k_X} {la : Launch} {G : k_G} {nm : String} {b Ln : Nat} {xs : Nat → Int32} (C : w_C X la G q_s0 nm b Ln xs) (hAI : k_AI X.2.2.2.2.1)
    (Z : ∀ (σ : k_S) (k n : Nat) (L : List (Option k_AV)), k ≤ 603072 → n ≤ 7198825 → k_W X σ k n 2118 L [k_i 1]) : k_W X q_s0 0 0 0 [some (k_r b), none, none, none, none, none, none, none, none] [] := by
  obtain ⟨hla, h, hMe, hX, hbl, hbA, hLn⟩ := id C
  obtain ⟨n0, n1, n2, n3⟩ := q_is_N
  refine r_new h hMe 0 kn_L_8 dL_law_0 ⟨by decide, by decide⟩ ?_
  rw [show k_N q_s0 0 = 0 from rfl]
  refine r_dup h dL_law_3 rfl ?_
  refine r_callI h hMe (rest := [k_p 0 0]) (as := []) (b := (0, 0)) (oc := .inl (k_mU (), q_i7)) (j_X7_init la hla G _ 0 ((), q_i7) q_i7_e) kl_L_119 dL_law_4 rfl rfl ⟨rfl, rfl, Nat.le_of_ble_eq_true rfl, Nat.le_of_ble_eq_true rfl, Nat.le_of_ble_eq_true rfl, Nat.le_of_ble_eq_true rfl, Nat.le_of_ble_eq_true rfl⟩ (fun E q => by cases q) (fun r s q => ?_)
  cases q
  show k_W X _ _ _ _ _ [k_p 0 0]
  refine r_astore_n (L' := [some (k_r b), some (k_p 0 0), none, none, none, none, none, none, none]) h dL_law_7 (by decide) rfl ?_
  refine r_new h hMe 1 kn_L_120 dL_law_8 ⟨by decide, by decide⟩ ?_
  rw [n1]
  refine r_dup h dL_law_11 rfl ?_
  refine r_callIA h hMe hAI (rest := [k_p 1 0]) (as := []) (b := (1, 0)) (oc := .inl (k_mU (), q_i8)) (j_X8_init la hla G _ 0 ((), q_i8) q_i8_e) kl_L_122 dL_law_12 rfl rfl ⟨rfl, rfl, Nat.le_of_ble_eq_true rfl, Nat.le_of_ble_eq_true rfl, Nat.le_of_ble_eq_true rfl, Nat.le_of_ble_eq_true rfl, Nat.le_of_ble_eq_true rfl⟩ (fun E q => by cases q) (fun r s q => ?_)
  cases q
  show k_W X _ _ _ _ _ [k_p 1 0]
  refine r_astore_n (L' := [some (k_r b), some (k_p 0 0), some (k_p 1 0), none, none, none, none, none, none]) h dL_law_15 (by decide) rfl ?_
  refine r_iconst (v := 1) h dL_law_16 (by decide) ?_
  refine r_newarr h hMe 18 dL_law_17 wd_1263 rfl rfl (fun _ => rfl) (fun _ => rfl) (fun _ _ q => q) (by decide) (by decide) (by decide) (by decide) ?_
  rw [n2]
  refine r_astore_n (L' := [some (k_r b), some (k_p 0 0), some (k_p 1 0), some (k_p 18 0), none, none, none, none, none]) h dL_law_19 (by decide) rfl ?_
  refine r_iconst (v := 1) h dL_law_20 (by decide) ?_
  refine r_newarr h hMe 19 dL_law_21 wd_1264 rfl rfl (fun _ => rfl) (fun _ => rfl) (fun _ _ q => q) (by decide) (by decide) (by decide) (by decide) ?_
  rw [n3]
  refine r_astore (L' := [some (k_r b), some (k_p 0 0), some (k_p 1 0), some (k_p 18 0), some (k_p 19 0), none, none, none, none]) h dL_law_23 (by decide) rfl ?_
  refine r_iconst (v := 0) h dL_law_25 (by decide) ?_
  refine r_istore (L' := w_L b 0 none none none) h dL_law_26 (by decide) rfl ?_
  exact w_loop C Z 512 0 q_is _ _ 0 q_is_I (by decide) (by omega) (Nat.le_of_ble_eq_true rfl) (Nat.le_of_ble_eq_true rfl)
