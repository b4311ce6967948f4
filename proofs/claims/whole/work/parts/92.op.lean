/-! ===== THE LAW'S WALK: one operation, all, the whole ===== -/
theorem w_op {X : k_X} {la : Launch} {G : k_G} {σ0 : k_S} {nm : String} {b Ln : Nat} {xs : Nat → Int32} (C : w_C X la G σ0 nm b Ln xs) {σ : k_S} {T k n i : Nat} (hI : q_I T σ σ) (hi : i + 6 ≤ Ln) (hk : k + 12 ≤ 603072) (hn : n + 958 ≤ 7198825)
    (K : ∀ (T : Nat) (σ2 : k_S) (k2 n2 : Nat), q_I T σ2 σ2 → k2 ≤ k + 12 → n2 ≤ n + 958 → k_W X σ2 k2 n2 2111 (w_L b i none none none) []) : k_W X σ k n 38 (w_L b i none none none) [] := by
  obtain ⟨hla, h, hMe, hX, hbl, hbA, hLn⟩ := id C
  refine r_aload_nR h dL_law_38 rfl ?_
  refine r_iload h dL_law_39 rfl ?_
  refine r_sld h hMe hX hbl hbA rfl (show i < Ln by omega) (by omega) dL_law_41 ?_
  refine r_bipush (v := 63) h dL_law_42 (by decide) ?_
  refine r_iand h dL_law_44 ?_
  generalize xs i &&& 63 = x
  by_cases c : x.toInt < 0 ∨ 32 < x.toInt
  · exact r_tableOut (tgt := 2111) h dL_law_45 c (by decide) (K T σ k n hI (by omega) (by omega))
  have hc : ∃ j : Nat, j < 33 ∧ x.toInt = (j : Int) := ⟨x.toInt.toNat, by omega, by omega⟩
  obtain ⟨j, hj, hx⟩ := hc
  match j, hj, hx with
  | 0, _, hx => exact r_tableIn (tgt := 192) (off := 147) h dL_law_45 (by omega) (by omega) (by rw [hx]; rfl) (by decide) (w_case_addRule C hI hi hk hn K)
  | 1, _, hx => exact r_tableIn (tgt := 312) (off := 267) h dL_law_45 (by omega) (by omega) (by rw [hx]; rfl) (by decide) (w_case_repeal C hI hi hk hn K)
  | 2, _, hx => exact r_tableIn (tgt := 380) (off := 335) h dL_law_45 (by omega) (by omega) (by rw [hx]; rfl) (by decide) (w_case_isInForce C hI hi hk hn K)
  | 3, _, hx => exact r_tableIn (tgt := 455) (off := 410) h dL_law_45 (by omega) (by omega) (by rw [hx]; rfl) (by decide) (w_case_applying C hI hi hk hn K)
  | 4, _, hx => exact r_tableIn (tgt := 511) (off := 466) h dL_law_45 (by omega) (by omega) (by rw [hx]; rfl) (by decide) (w_case_conflicts C hI hi hk hn K)
  | 5, _, hx => exact r_tableIn (tgt := 567) (off := 522) h dL_law_45 (by omega) (by omega) (by rw [hx]; rfl) (by decide) (w_case_addUser C hI hi hk hn K)
  | 6, _, hx => exact r_tableIn (tgt := 623) (off := 578) h dL_law_45 (by omega) (by omega) (by rw [hx]; rfl) (by decide) (w_case_setWeight C hI hi hk hn K)
  | 7, _, hx => exact r_tableIn (tgt := 691) (off := 646) h dL_law_45 (by omega) (by omega) (by rw [hx]; rfl) (by decide) (w_case_sanctions C hI hi hk hn K)
  | 8, _, hx => exact r_tableIn (tgt := 747) (off := 702) h dL_law_45 (by omega) (by omega) (by rw [hx]; rfl) (by decide) (w_case_sanctionedUntil C hI hi hk hn K)
  | 9, _, hx => exact r_tableIn (tgt := 803) (off := 758) h dL_law_45 (by omega) (by omega) (by rw [hx]; rfl) (by decide) (w_case_addBot C hI hi hk hn K)
  | 10, _, hx => exact r_tableIn (tgt := 871) (off := 826) h dL_law_45 (by omega) (by omega) (by rw [hx]; rfl) (by decide) (w_case_threshold C hI hi hk hn K)
  | 11, _, hx => exact r_tableIn (tgt := 927) (off := 882) h dL_law_45 (by omega) (by omega) (by rw [hx]; rfl) (by decide) (w_case_file C hI hi hk hn K)
  | 12, _, hx => exact r_tableIn (tgt := 1019) (off := 974) h dL_law_45 (by omega) (by omega) (by rw [hx]; rfl) (by decide) (w_case_state C hI hi hk hn K)
  | 13, _, hx => exact r_tableIn (tgt := 1075) (off := 1030) h dL_law_45 (by omega) (by omega) (by rw [hx]; rfl) (by decide) (w_case_vote C hI hi hk hn K)
  | 14, _, hx => exact r_tableIn (tgt := 1171) (off := 1126) h dL_law_45 (by omega) (by omega) (by rw [hx]; rfl) (by decide) (w_case_weightFor C hI hi hk hn K)
  | 15, _, hx => exact r_tableIn (tgt := 1227) (off := 1182) h dL_law_45 (by omega) (by omega) (by rw [hx]; rfl) (by decide) (w_case_weightAgainst C hI hi hk hn K)
  | 16, _, hx => exact r_tableIn (tgt := 1283) (off := 1238) h dL_law_45 (by omega) (by omega) (by rw [hx]; rfl) (by decide) (w_case_setQuorum C hI hi hk hn K)
  | 17, _, hx => exact r_tableIn (tgt := 1339) (off := 1294) h dL_law_45 (by omega) (by omega) (by rw [hx]; rfl) (by decide) (w_case_precedent C hI hi hk hn K)
  | 18, _, hx => exact r_tableIn (tgt := 1395) (off := 1350) h dL_law_45 (by omega) (by omega) (by rw [hx]; rfl) (by decide) (w_case_decide C hI hi hk hn K)
  | 19, _, hx => exact r_tableIn (tgt := 1451) (off := 1406) h dL_law_45 (by omega) (by omega) (by rw [hx]; rfl) (by decide) (w_case_outcome C hI hi hk hn K)
  | 20, _, hx => exact r_tableIn (tgt := 1507) (off := 1462) h dL_law_45 (by omega) (by omega) (by rw [hx]; rfl) (by decide) (w_case_outcomeAnew C hI hi hk hn K)
  | 21, _, hx => exact r_tableIn (tgt := 1563) (off := 1518) h dL_law_45 (by omega) (by omega) (by rw [hx]; rfl) (by decide) (w_case_isByBot C hI hi hk hn K)
  | 22, _, hx => exact r_tableIn (tgt := 1626) (off := 1581) h dL_law_45 (by omega) (by omega) (by rw [hx]; rfl) (by decide) (w_case_appeal C hI hi hk hn K)
  | 23, _, hx => exact r_tableIn (tgt := 1682) (off := 1637) h dL_law_45 (by omega) (by omega) (by rw [hx]; rfl) (by decide) (w_case_wasReversed C hI hi hk hn K)
  | 24, _, hx => exact r_tableIn (tgt := 1745) (off := 1700) h dL_law_45 (by omega) (by omega) (by rw [hx]; rfl) (by decide) (w_case_today C hI hi hk hn K)
  | 25, _, hx => exact r_tableIn (tgt := 1758) (off := 1713) h dL_law_45 (by omega) (by omega) (by rw [hx]; rfl) (by decide) (w_case_pass C hI hi hk hn K)
  | 26, _, hx => exact r_tableIn (tgt := 1814) (off := 1769) h dL_law_45 (by omega) (by omega) (by rw [hx]; rfl) (by decide) (w_case_decisions C hI hi hk hn K)
  | 27, _, hx => exact r_tableIn (tgt := 1827) (off := 1782) h dL_law_45 (by omega) (by omega) (by rw [hx]; rfl) (by decide) (w_case_likeness C hI hi hk hn K)
  | 28, _, hx => exact r_tableIn (tgt := 1895) (off := 1850) h dL_law_45 (by omega) (by omega) (by rw [hx]; rfl) (by decide) (w_case_count C hI hi hk hn K)
  | 29, _, hx => exact r_tableIn (tgt := 1953) (off := 1908) h dL_law_45 (by omega) (by omega) (by rw [hx]; rfl) (by decide) (w_case_meanEvidence C hI hi hk hn K)
  | 30, _, hx => exact r_tableIn (tgt := 2018) (off := 1973) h dL_law_45 (by omega) (by omega) (by rw [hx]; rfl) (by decide) (w_case_reversedShare C hI hi hk hn K)
  | 31, _, hx => exact r_tableIn (tgt := 2084) (off := 2039) h dL_law_45 (by omega) (by omega) (by rw [hx]; rfl) (by decide) (w_case_sanctionDays C hI hi hk hn K)
  | 32, _, hx => exact r_tableIn (tgt := 2098) (off := 2053) h dL_law_45 (by omega) (by omega) (by rw [hx]; rfl) (by decide) (w_case_isConsistent C hI hi hk hn K)
  | j + 33, hj, _ => exact absurd hj (by omega)
