/-! ===== THE LAW'S WALK: numbers are alike to themselves ===== -/
theorem w_order {d : FP.Core.Datum} (h : d ≠ .nan) : FP.Core.order d d = some .eq := by
  cases d with
  | nan => exact absurd rfl h
  | inf s => simp [FP.Core.order]
  | fin s c q => simp [FP.Core.order]
theorem w_nan64 {v : UInt64} (h : q_okD v) : FP.Core.decode FP.Core.b64 v.toNat ≠ .nan := by
  unfold q_okD at h
  have h2 : v.toNat % 2 ^ 63 ≤ 0x7ff0000000000000 := by
    have h3 := UInt64.le_iff_toNat_le.mp h
    rw [UInt64.toNat_and] at h3
    have h4 : (0x7fffffffffffffff : UInt64).toNat = 2 ^ 63 - 1 := by decide
    rw [h4, Nat.and_two_pow_sub_one_eq_mod] at h3
    exact h3
  unfold FP.Core.decode
  have e1 : FP.Core.fieldE FP.Core.b64 v.toNat = v.toNat / 4503599627370496 % 2048 := rfl
  have e2 : FP.Core.fieldT FP.Core.b64 v.toNat = v.toNat % 4503599627370496 := rfl
  have e3 : FP.Core.b64.exps - 1 = 2047 := rfl
  rw [e1, e2, e3]
  by_cases c1 : v.toNat / 4503599627370496 % 2048 = 2047
  · rw [if_pos c1]
    by_cases c2 : v.toNat % 4503599627370496 = 0
    · rw [if_pos c2]
      intro q
      cases q
    · exfalso
      omega
  · rw [if_neg c1]
    split
    · intro q
      cases q
    · intro q
      cases q
theorem w_dcmp {v : UInt64} (h : q_okD v) : Op.cmpValue (FP.dcmp v v) .l = 0 := by
  unfold FP.dcmp FP.Core.dcmp FP.Core.cmp
  rw [w_order (w_nan64 h)]
  rfl
theorem w_tailD {X : k_X} {la : Launch} {G : k_G} {σ0 : k_S} {nm : String} {b Ln : Nat} {xs : Nat → Int32} (C : w_C X la G σ0 nm b Ln xs) {σ : k_S} {k n i : Nat} {kx : Int32} {v : UInt64} (hth : k_I σ 1 0 0 = kx) (hv : kx = 0 → k_D σ 19 0 0 = v ∧ q_okD v) (hkn : k ≤ 603072 ∧ n ≤ 7198825)
    (K : k_W X σ k n 2111 (w_L b i none none none) []) : k_W X σ k n 1965 (w_L b i (some (k_i kx)) none none) [k_d v] := by
  have h := C.2.1
  refine r_dstore (L' := w_L b i (some (k_i kx)) (some (k_d v)) none) h dL_law_1965 (by decide) rfl ?_
  refine w_thrown C hth hkn rfl rfl dL_law_1967 dL_law_1968 dL_law_1971 dL_law_1973 dL_law_1978 ?_
  refine r_if_ne (tgt := 2015) h dL_law_1980 (by decide) (fun _ => ?_) (fun c => ?_)
  · exact r_goto (tgt := 2111) h dL_law_2015 (by decide) (w_forget K)
  · obtain ⟨e, ok⟩ := hv c
    refine r_aload h dL_law_1983 rfl ?_
    refine r_iconst (v := 0) h dL_law_1985 (by decide) ?_
    refine r_daload (y := 0) (t := 0) h dL_law_1986 rfl rfl rfl (by decide) (by decide) (by decide) ?_
    rw [e]
    refine r_dload h dL_law_1987 rfl ?_
    refine r_dcmp h dL_law_1989 ?_
    refine r_if_eq (tgt := 2015) h dL_law_1990 (by decide) (fun _ => ?_) (fun c2 => absurd (w_dcmp ok) c2)
    exact r_goto (tgt := 2111) h dL_law_2015 (by decide) (w_forget K)
theorem w_tailF {X : k_X} {la : Launch} {G : k_G} {σ0 : k_S} {nm : String} {b Ln : Nat} {xs : Nat → Int32} (C : w_C X la G σ0 nm b Ln xs) {σ : k_S} {k n i : Nat} {kx : Int32} {v : UInt32} (hth : k_I σ 1 0 0 = kx) (hv : kx = 0 → k_D σ 19 0 0 = FP.f2d v ∧ q_okF v ∧ q_okD (FP.f2d v)) (hkn : k ≤ 603072 ∧ n ≤ 7198825)
    (K : k_W X σ k n 2111 (w_L b i none none none) []) : k_W X σ k n 2030 (w_L b i (some (k_i kx)) none none) [k_f v] := by
  have h := C.2.1
  refine r_fstore (L' := w_L b i (some (k_i kx)) (some (k_f v)) none) h dL_law_2030 (by decide) rfl ?_
  refine w_thrown C hth hkn rfl rfl dL_law_2032 dL_law_2033 dL_law_2036 dL_law_2038 dL_law_2043 ?_
  refine r_if_ne (tgt := 2081) h dL_law_2045 (by decide) (fun _ => ?_) (fun c => ?_)
  · exact r_goto (tgt := 2111) h dL_law_2081 (by decide) (w_forget K)
  · obtain ⟨e, -, ok⟩ := hv c
    refine r_aload h dL_law_2048 rfl ?_
    refine r_iconst (v := 0) h dL_law_2050 (by decide) ?_
    refine r_daload (y := 0) (t := 0) h dL_law_2051 rfl rfl rfl (by decide) (by decide) (by decide) ?_
    rw [e]
    refine r_fload h dL_law_2052 rfl ?_
    refine r_f2d h dL_law_2054 ok ?_
    refine r_dcmp h dL_law_2055 ?_
    refine r_if_eq (tgt := 2081) h dL_law_2056 (by decide) (fun _ => ?_) (fun c2 => absurd (w_dcmp ok) c2)
    exact r_goto (tgt := 2111) h dL_law_2081 (by decide) (w_forget K)
