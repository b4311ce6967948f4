/-! ===== THE PURE PART: figures ===== -/
theorem q_l_add (x y : Nat) : lN x + lN y = lN (x + y) := (Int64.ofNat_add x y).symm
theorem q_I.dsum {T : Nat} {a m : k_S} (h : q_I T a m) : ∀ n, n ≤ k_Z a 16 → q_dsum a n = lN (q_sN (q_dy T a) n)
  | 0, _ => rfl
  | n + 1, hn => by
    have hT := h.Td.2.2.1
    obtain ⟨u, s, e, h1, h2, h3, h4, h5, h6⟩ := h.Sn n (by omega)
    have e1 : q_db a n = nI (q_dy T a n) := by
      unfold q_db q_dy
      rw [h.Td.1, h2, h3, q_c (by omega), q_c (by omega)]
      by_cases q : T < e
      · rw [if_pos (nI_lt q (by omega)), pk_sub (by omega), Nat.min_eq_right (by omega)]
      · rw [if_neg (nI_nlt (by omega) (by omega)), pk_sub (by omega), Nat.min_eq_left (by omega)]
    have e2 : q_dy T a n < 2 ^ 31 := by
      unfold q_dy
      omega
    show q_dsum a n + (q_db a n).toInt64 = lN (q_sN (q_dy T a) n + q_dy T a n)
    rw [h.dsum n (by omega), e1, nI_l e2, q_l_add]
theorem g_today {T : Nat} {σ : k_S} (hI : q_I T σ σ) : ∃ v σ2, f_X7_today σ 0 = some v ∧ f_X8_today σ 0 = some (v, σ2) ∧ q_I T σ2 σ2 :=
  ⟨k_I σ 0 0 8, k_uI σ 1 0 0 0, rfl, by unfold f_X8_today; rw [hI.Td.1, hI.Td.2.1], (hI.th).sh (q_sh.rf.uI (by omega))⟩
theorem g_decisions {T : Nat} {σ : k_S} (hI : q_I T σ σ) : ∃ v σ2, f_X7_decisions σ 0 = some v ∧ f_X8_decisions σ 0 = some (v, σ2) ∧ q_I T σ2 σ2 :=
  ⟨k_I σ 8 0 2, k_uI σ 1 0 0 0, by unfold f_X7_decisions; rw [hI.H.p6, Option.bind_some], by unfold f_X8_decisions; rw [hI.De.2.1], (hI.th).sh (q_sh.rf.uI (by omega))⟩
theorem g_sanctionDays {T : Nat} {σ : k_S} (hI : q_I T σ σ) : ∃ v σ2, f_X7_sanctionDays σ 0 = some v ∧ f_X8_sanctionDays σ 0 = some (v, σ2) ∧ q_I T σ2 σ2 :=
  ⟨k_J σ 1 0 32, k_uI σ 1 0 0 0, by rw [q_days hI.H, hI.dsum _ (Nat.le_refl _), hI.Sj], rfl, (hI.th).sh (q_sh.rf.uI (by omega))⟩
def q_okD (v : UInt64) : Prop := v &&& 0x7fffffffffffffff ≤ 0x7ff0000000000000
def q_okF (v : UInt32) : Prop := v &&& 0x7fffffff ≤ 0x7f800000
def q_ckD (n s : Nat) : Bool := decide ((FP.ddiv (FP.i2d (nI s)) (FP.i2d (nI n))) &&& 0x7fffffffffffffff ≤ 0x7ff0000000000000)
def q_ckF (n s : Nat) : Bool := decide ((FP.fdiv (FP.i2f (nI s)) (FP.i2f (nI n))) &&& 0x7fffffff ≤ 0x7f800000) && decide ((FP.f2d (FP.fdiv (FP.i2f (nI s)) (FP.i2f (nI n)))) &&& 0x7fffffffffffffff ≤ 0x7ff0000000000000)
def q_lD (n k : Nat) : Bool := (List.range k).all (fun s => q_ckD n s)
theorem q_lD1 : q_lD 1 101 = true := by decide +kernel
theorem q_lD2 : q_lD 2 201 = true := by decide +kernel
theorem q_lD3 : q_lD 3 301 = true := by decide +kernel
theorem q_lD4 : q_lD 4 401 = true := by decide +kernel
theorem q_lD5 : q_lD 5 501 = true := by decide +kernel
theorem q_lD6 : q_lD 6 601 = true := by decide +kernel
theorem q_lD7 : q_lD 7 701 = true := by decide +kernel
theorem q_lD8 : q_lD 8 801 = true := by decide +kernel
theorem q_lD9 : q_lD 9 901 = true := by decide +kernel
theorem q_lD10 : q_lD 10 1001 = true := by decide +kernel
theorem q_lD11 : q_lD 11 1101 = true := by decide +kernel
theorem q_lD12 : q_lD 12 1201 = true := by decide +kernel
theorem q_lD13 : q_lD 13 1301 = true := by decide +kernel
theorem q_lD14 : q_lD 14 1401 = true := by decide +kernel
theorem q_lD15 : q_lD 15 1501 = true := by decide +kernel
theorem q_lD16 : q_lD 16 1601 = true := by decide +kernel
theorem q_lD17 : q_lD 17 1701 = true := by decide +kernel
theorem q_lD18 : q_lD 18 1801 = true := by decide +kernel
theorem q_lD19 : q_lD 19 1901 = true := by decide +kernel
theorem q_lD20 : q_lD 20 2001 = true := by decide +kernel
theorem q_lF : ((List.range 21).all fun n => (List.range 21).all fun s => n == 0 || q_ckF n s) = true := by decide +kernel
