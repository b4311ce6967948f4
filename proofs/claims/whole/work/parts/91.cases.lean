/-! ===== THE LAW'S WALK: cases 22 to 32 (written by wip/whole/gen_law.py) ===== -/
theorem w_case_appeal {X : k_X} {la : Launch} {G : k_G} {σ0 : k_S} {nm : String} {b Ln : Nat} {xs : Nat → Int32} (C : w_C X la G σ0 nm b Ln xs) {σ : k_S} {T k n i : Nat} (hI : q_I T σ σ) (hi : i + 6 ≤ Ln) (hk : k + 12 ≤ 603072) (hn : n + 958 ≤ 7198825)
    (K : ∀ (T : Nat) (σ2 : k_S) (k2 n2 : Nat), q_I T σ2 σ2 → k2 ≤ k + 12 → n2 ≤ n + 958 → k_W X σ2 k2 n2 2111 (w_L b i none none none) []) : k_W X σ k n 1626 (w_L b i none none none) [] := by
  obtain ⟨hla, h, hMe, hX, hbl, hbA, hLn⟩ := id C
  obtain ⟨kx, σ1, v, σ2, T2, e1, e2, hth, hv, hI2⟩ := g_appeal hI (xs (i + 1))
  have K2 := K T2 σ2 (k + 3 + 0) (n + 310 + 0) hI2 (by omega) (by omega)
  refine r_aload_n h dL_law_1626 rfl ?_
  refine w_arg C 1 (by omega) dL_law_1627 dL_law_1628 dL_law_1630 (by decide) dL_law_1631 dL_law_1632 ?_
  refine r_aload_n h dL_law_1633 rfl ?_
  refine r_callSW h hMe (rest := []) (as := [k_p 0 0, k_i (xs (i + 1)), k_p 18 0]) (oc := .inl (k_mI kx, σ1)) (j_L_appeal la hla G _ 0 (xs (i + 1)) 0 (kx, σ1) e1) kl_L_200 dL_law_1634 rfl rfl ⟨rfl, rfl, Nat.le_of_ble_eq_true rfl, Nat.le_of_ble_eq_true rfl, by show k + 3 ≤ 603072; omega, by show n + 310 ≤ 7198825; omega, Nat.le_of_ble_eq_true rfl⟩ (fun E q => by cases q) (fun r s q => ?_)
  cases q
  show k_W X _ _ _ _ _ [k_i kx]
  refine r_istore (L' := w_L b i (some (k_i kx)) none none) h dL_law_1637 (by decide) rfl ?_
  refine r_aload_n h dL_law_1639 rfl ?_
  refine w_arg C 1 (by omega) dL_law_1640 dL_law_1641 dL_law_1643 (by decide) dL_law_1644 dL_law_1645 ?_
  refine r_callV h hMe (rest := []) (as := [k_i (xs (i + 1))]) (oc := .inl (k_mI v, σ2)) (j_X8_appeal la hla G _ 0 (xs (i + 1)) (v, σ2) e2) kl_L_202 dL_law_1646 rfl rfl rfl rfl rfl ⟨rfl, rfl, Nat.le_of_ble_eq_true rfl, Nat.le_of_ble_eq_true rfl, by show k + 3 + 0 ≤ 603072; omega, by show n + 310 + 0 ≤ 7198825; omega, Nat.le_of_ble_eq_true rfl⟩ (fun E q => by cases q) (fun r s q => ?_)
  cases q
  show k_W X _ _ _ _ _ [k_i v]
  exact w_tail C ⟨dL_law_1649, dL_law_1651, dL_law_1652, dL_law_1655, dL_law_1657, dL_law_1662, dL_law_1664, dL_law_1667, dL_law_1668, dL_law_1669, dL_law_1670, dL_law_1672, dL_law_1673, dL_law_1674, dL_law_1679, by decide⟩ hth hv ⟨by omega, by omega⟩ K2
theorem w_case_wasReversed {X : k_X} {la : Launch} {G : k_G} {σ0 : k_S} {nm : String} {b Ln : Nat} {xs : Nat → Int32} (C : w_C X la G σ0 nm b Ln xs) {σ : k_S} {T k n i : Nat} (hI : q_I T σ σ) (hi : i + 6 ≤ Ln) (hk : k + 12 ≤ 603072) (hn : n + 958 ≤ 7198825)
    (K : ∀ (T : Nat) (σ2 : k_S) (k2 n2 : Nat), q_I T σ2 σ2 → k2 ≤ k + 12 → n2 ≤ n + 958 → k_W X σ2 k2 n2 2111 (w_L b i none none none) []) : k_W X σ k n 1682 (w_L b i none none none) [] := by
  obtain ⟨hla, h, hMe, hX, hbl, hbA, hLn⟩ := id C
  obtain ⟨kx, σ1, v, σ2, T2, e1, e2, hth, hv, h01, hI2⟩ := g_wasReversed hI (xs (i + 1))
  have K2 := K T2 σ2 (k + 1 + 0) (n + 6 + 0) hI2 (by omega) (by omega)
  refine r_aload_n h dL_law_1682 rfl ?_
  refine w_arg C 1 (by omega) dL_law_1683 dL_law_1684 dL_law_1686 (by decide) dL_law_1687 dL_law_1688 ?_
  refine r_aload_n h dL_law_1689 rfl ?_
  refine r_callSW h hMe (rest := []) (as := [k_p 0 0, k_i (xs (i + 1)), k_p 18 0]) (oc := .inl (k_mI kx, σ1)) (j_L_wasReversed la hla G _ 0 (xs (i + 1)) 0 (kx, σ1) e1) kl_L_203 dL_law_1690 rfl rfl ⟨rfl, rfl, Nat.le_of_ble_eq_true rfl, Nat.le_of_ble_eq_true rfl, by show k + 1 ≤ 603072; omega, by show n + 6 ≤ 7198825; omega, Nat.le_of_ble_eq_true rfl⟩ (fun E q => by cases q) (fun r s q => ?_)
  cases q
  show k_W X _ _ _ _ _ [k_i kx]
  refine r_istore (L' := w_L b i (some (k_i kx)) none none) h dL_law_1693 (by decide) rfl ?_
  refine r_aload_n h dL_law_1695 rfl ?_
  refine w_arg C 1 (by omega) dL_law_1696 dL_law_1697 dL_law_1699 (by decide) dL_law_1700 dL_law_1701 ?_
  refine r_callV h hMe (rest := []) (as := [k_i (xs (i + 1))]) (oc := .inl (k_mI v, σ2)) (j_X8_wasReversed la hla G _ 0 (xs (i + 1)) (v, σ2) e2) kl_L_205 dL_law_1702 rfl rfl rfl rfl rfl ⟨rfl, rfl, Nat.le_of_ble_eq_true rfl, Nat.le_of_ble_eq_true rfl, by show k + 1 + 0 ≤ 603072; omega, by show n + 6 + 0 ≤ 7198825; omega, Nat.le_of_ble_eq_true rfl⟩ (fun E q => by cases q) (fun r s q => ?_)
  cases q
  show k_W X _ _ _ _ _ [k_i v]
  exact w_tailB C ⟨dL_law_1705, dL_law_1707, dL_law_1708, dL_law_1711, dL_law_1713, dL_law_1718, dL_law_1720, dL_law_1723, dL_law_1724, dL_law_1725, dL_law_1726, dL_law_1728, dL_law_1731, dL_law_1732, dL_law_1735, dL_law_1736, dL_law_1737, dL_law_1742, by decide⟩ hth hv h01 ⟨by omega, by omega⟩ K2
theorem w_case_today {X : k_X} {la : Launch} {G : k_G} {σ0 : k_S} {nm : String} {b Ln : Nat} {xs : Nat → Int32} (C : w_C X la G σ0 nm b Ln xs) {σ : k_S} {T k n i : Nat} (hI : q_I T σ σ) (hi : i + 6 ≤ Ln) (hk : k + 12 ≤ 603072) (hn : n + 958 ≤ 7198825)
    (K : ∀ (T : Nat) (σ2 : k_S) (k2 n2 : Nat), q_I T σ2 σ2 → k2 ≤ k + 12 → n2 ≤ n + 958 → k_W X σ2 k2 n2 2111 (w_L b i none none none) []) : k_W X σ k n 1745 (w_L b i none none none) [] := by
  obtain ⟨hla, h, hMe, hX, hbl, hbA, hLn⟩ := id C
  obtain ⟨v, σ2, e1, e2, hI2⟩ := g_today hI
  have K2 := K T σ2 (k + 0 + 0) (n + 0 + 0) hI2 (by omega) (by omega)
  refine r_aload_n h dL_law_1745 rfl ?_
  refine r_callV h hMe (rest := []) (as := []) (oc := .inl (k_mI v, σ)) (j_X7_today la hla G _ 0 v e1) kl_L_206 dL_law_1746 rfl rfl rfl rfl rfl ⟨rfl, rfl, Nat.le_of_ble_eq_true rfl, Nat.le_of_ble_eq_true rfl, by show k + 0 ≤ 603072; omega, by show n + 0 ≤ 7198825; omega, Nat.le_of_ble_eq_true rfl⟩ (fun E q => by cases q) (fun r s q => ?_)
  cases q
  show k_W X _ _ _ _ _ [k_i v]
  refine r_aload_n h dL_law_1749 rfl ?_
  refine r_callV h hMe (rest := [k_i v]) (as := []) (oc := .inl (k_mI v, σ2)) (j_X8_today la hla G _ 0 (v, σ2) e2) kl_L_209 dL_law_1750 rfl rfl rfl rfl rfl ⟨rfl, rfl, Nat.le_of_ble_eq_true rfl, Nat.le_of_ble_eq_true rfl, by show k + 0 + 0 ≤ 603072; omega, by show n + 0 + 0 ≤ 7198825; omega, Nat.le_of_ble_eq_true rfl⟩ (fun E q => by cases q) (fun r s q => ?_)
  cases q
  show k_W X _ _ _ _ _ [k_i v, k_i v]
  exact r_icmp_eq (tgt := 2111) h dL_law_1753 (by decide) (fun _ => K2) (fun c => absurd rfl c)
theorem w_case_pass {X : k_X} {la : Launch} {G : k_G} {σ0 : k_S} {nm : String} {b Ln : Nat} {xs : Nat → Int32} (C : w_C X la G σ0 nm b Ln xs) {σ : k_S} {T k n i : Nat} (hI : q_I T σ σ) (hi : i + 6 ≤ Ln) (hk : k + 12 ≤ 603072) (hn : n + 958 ≤ 7198825)
    (K : ∀ (T : Nat) (σ2 : k_S) (k2 n2 : Nat), q_I T σ2 σ2 → k2 ≤ k + 12 → n2 ≤ n + 958 → k_W X σ2 k2 n2 2111 (w_L b i none none none) []) : k_W X σ k n 1758 (w_L b i none none none) [] := by
  obtain ⟨hla, h, hMe, hX, hbl, hbA, hLn⟩ := id C
  obtain ⟨kx, σ1, v, σ2, T2, e1, e2, hth, hv, hI2⟩ := g_pass hI (xs (i + 1))
  have K2 := K T2 σ2 (k + 2 + 0) (n + 12 + 0) hI2 (by omega) (by omega)
  refine r_aload_n h dL_law_1758 rfl ?_
  refine w_arg C 1 (by omega) dL_law_1759 dL_law_1760 dL_law_1762 (by decide) dL_law_1763 dL_law_1764 ?_
  refine r_aload_n h dL_law_1765 rfl ?_
  refine r_callSW h hMe (rest := []) (as := [k_p 0 0, k_i (xs (i + 1)), k_p 18 0]) (oc := .inl (k_mI kx, σ1)) (j_L_pass la hla G _ 0 (xs (i + 1)) 0 (kx, σ1) e1) kl_L_210 dL_law_1766 rfl rfl ⟨rfl, rfl, Nat.le_of_ble_eq_true rfl, Nat.le_of_ble_eq_true rfl, by show k + 2 ≤ 603072; omega, by show n + 12 ≤ 7198825; omega, Nat.le_of_ble_eq_true rfl⟩ (fun E q => by cases q) (fun r s q => ?_)
  cases q
  show k_W X _ _ _ _ _ [k_i kx]
  refine r_istore (L' := w_L b i (some (k_i kx)) none none) h dL_law_1769 (by decide) rfl ?_
  refine r_aload_n h dL_law_1771 rfl ?_
  refine w_arg C 1 (by omega) dL_law_1772 dL_law_1773 dL_law_1775 (by decide) dL_law_1776 dL_law_1777 ?_
  refine r_callV h hMe (rest := []) (as := [k_i (xs (i + 1))]) (oc := .inl (k_mI v, σ2)) (j_X8_pass la hla G _ 0 (xs (i + 1)) (v, σ2) e2) kl_L_212 dL_law_1778 rfl rfl rfl rfl rfl ⟨rfl, rfl, Nat.le_of_ble_eq_true rfl, Nat.le_of_ble_eq_true rfl, by show k + 2 + 0 ≤ 603072; omega, by show n + 12 + 0 ≤ 7198825; omega, Nat.le_of_ble_eq_true rfl⟩ (fun E q => by cases q) (fun r s q => ?_)
  cases q
  show k_W X _ _ _ _ _ [k_i v]
  exact w_tail C ⟨dL_law_1781, dL_law_1783, dL_law_1784, dL_law_1787, dL_law_1789, dL_law_1794, dL_law_1796, dL_law_1799, dL_law_1800, dL_law_1801, dL_law_1802, dL_law_1804, dL_law_1805, dL_law_1806, dL_law_1811, by decide⟩ hth hv ⟨by omega, by omega⟩ K2
theorem w_case_decisions {X : k_X} {la : Launch} {G : k_G} {σ0 : k_S} {nm : String} {b Ln : Nat} {xs : Nat → Int32} (C : w_C X la G σ0 nm b Ln xs) {σ : k_S} {T k n i : Nat} (hI : q_I T σ σ) (hi : i + 6 ≤ Ln) (hk : k + 12 ≤ 603072) (hn : n + 958 ≤ 7198825)
    (K : ∀ (T : Nat) (σ2 : k_S) (k2 n2 : Nat), q_I T σ2 σ2 → k2 ≤ k + 12 → n2 ≤ n + 958 → k_W X σ2 k2 n2 2111 (w_L b i none none none) []) : k_W X σ k n 1814 (w_L b i none none none) [] := by
  obtain ⟨hla, h, hMe, hX, hbl, hbA, hLn⟩ := id C
  obtain ⟨v, σ2, e1, e2, hI2⟩ := g_decisions hI
  have K2 := K T σ2 (k + 0 + 0) (n + 0 + 0) hI2 (by omega) (by omega)
  refine r_aload_n h dL_law_1814 rfl ?_
  refine r_callV h hMe (rest := []) (as := []) (oc := .inl (k_mI v, σ)) (j_X7_decisions la hla G _ 0 v e1) kl_L_213 dL_law_1815 rfl rfl rfl rfl rfl ⟨rfl, rfl, Nat.le_of_ble_eq_true rfl, Nat.le_of_ble_eq_true rfl, by show k + 0 ≤ 603072; omega, by show n + 0 ≤ 7198825; omega, Nat.le_of_ble_eq_true rfl⟩ (fun E q => by cases q) (fun r s q => ?_)
  cases q
  show k_W X _ _ _ _ _ [k_i v]
  refine r_aload_n h dL_law_1818 rfl ?_
  refine r_callV h hMe (rest := [k_i v]) (as := []) (oc := .inl (k_mI v, σ2)) (j_X8_decisions la hla G _ 0 (v, σ2) e2) kl_L_216 dL_law_1819 rfl rfl rfl rfl rfl ⟨rfl, rfl, Nat.le_of_ble_eq_true rfl, Nat.le_of_ble_eq_true rfl, by show k + 0 + 0 ≤ 603072; omega, by show n + 0 + 0 ≤ 7198825; omega, Nat.le_of_ble_eq_true rfl⟩ (fun E q => by cases q) (fun r s q => ?_)
  cases q
  show k_W X _ _ _ _ _ [k_i v, k_i v]
  exact r_icmp_eq (tgt := 2111) h dL_law_1822 (by decide) (fun _ => K2) (fun c => absurd rfl c)
theorem w_case_likeness {X : k_X} {la : Launch} {G : k_G} {σ0 : k_S} {nm : String} {b Ln : Nat} {xs : Nat → Int32} (C : w_C X la G σ0 nm b Ln xs) {σ : k_S} {T k n i : Nat} (hI : q_I T σ σ) (hi : i + 6 ≤ Ln) (hk : k + 12 ≤ 603072) (hn : n + 958 ≤ 7198825)
    (K : ∀ (T : Nat) (σ2 : k_S) (k2 n2 : Nat), q_I T σ2 σ2 → k2 ≤ k + 12 → n2 ≤ n + 958 → k_W X σ2 k2 n2 2111 (w_L b i none none none) []) : k_W X σ k n 1827 (w_L b i none none none) [] := by
  obtain ⟨hla, h, hMe, hX, hbl, hbA, hLn⟩ := id C
  obtain ⟨kx, σ1, v, σ2, T2, e1, e2, hth, hv, hI2⟩ := g_likeness hI (xs (i + 1)) (xs (i + 2))
  have K2 := K T2 σ2 (k + 2 + 0) (n + 12 + 0) hI2 (by omega) (by omega)
  refine r_aload_n h dL_law_1827 rfl ?_
  refine w_arg C 1 (by omega) dL_law_1828 dL_law_1829 dL_law_1831 (by decide) dL_law_1832 dL_law_1833 ?_
  refine w_arg C 2 (by omega) dL_law_1834 dL_law_1835 dL_law_1837 (by decide) dL_law_1838 dL_law_1839 ?_
  refine r_aload_n h dL_law_1840 rfl ?_
  refine r_callSW h hMe (rest := []) (as := [k_p 0 0, k_i (xs (i + 1)), k_i (xs (i + 2)), k_p 18 0]) (oc := .inl (k_mI kx, σ1)) (j_L_likeness la hla G _ 0 (xs (i + 1)) (xs (i + 2)) 0 (kx, σ1) e1) kl_L_217 dL_law_1841 rfl rfl ⟨rfl, rfl, Nat.le_of_ble_eq_true rfl, Nat.le_of_ble_eq_true rfl, by show k + 2 ≤ 603072; omega, by show n + 12 ≤ 7198825; omega, Nat.le_of_ble_eq_true rfl⟩ (fun E q => by cases q) (fun r s q => ?_)
  cases q
  show k_W X _ _ _ _ _ [k_i kx]
  refine r_istore (L' := w_L b i (some (k_i kx)) none none) h dL_law_1844 (by decide) rfl ?_
  refine r_aload_n h dL_law_1846 rfl ?_
  refine w_arg C 1 (by omega) dL_law_1847 dL_law_1848 dL_law_1850 (by decide) dL_law_1851 dL_law_1852 ?_
  refine w_arg C 2 (by omega) dL_law_1853 dL_law_1854 dL_law_1856 (by decide) dL_law_1857 dL_law_1858 ?_
  refine r_callV h hMe (rest := []) (as := [k_i (xs (i + 1)), k_i (xs (i + 2))]) (oc := .inl (k_mI v, σ2)) (j_X8_likeness la hla G _ 0 (xs (i + 1)) (xs (i + 2)) (v, σ2) e2) kl_L_219 dL_law_1859 rfl rfl rfl rfl rfl ⟨rfl, rfl, Nat.le_of_ble_eq_true rfl, Nat.le_of_ble_eq_true rfl, by show k + 2 + 0 ≤ 603072; omega, by show n + 12 + 0 ≤ 7198825; omega, Nat.le_of_ble_eq_true rfl⟩ (fun E q => by cases q) (fun r s q => ?_)
  cases q
  show k_W X _ _ _ _ _ [k_i v]
  exact w_tail C ⟨dL_law_1862, dL_law_1864, dL_law_1865, dL_law_1868, dL_law_1870, dL_law_1875, dL_law_1877, dL_law_1880, dL_law_1881, dL_law_1882, dL_law_1883, dL_law_1885, dL_law_1886, dL_law_1887, dL_law_1892, by decide⟩ hth hv ⟨by omega, by omega⟩ K2
theorem w_case_count {X : k_X} {la : Launch} {G : k_G} {σ0 : k_S} {nm : String} {b Ln : Nat} {xs : Nat → Int32} (C : w_C X la G σ0 nm b Ln xs) {σ : k_S} {T k n i : Nat} (hI : q_I T σ σ) (hi : i + 6 ≤ Ln) (hk : k + 12 ≤ 603072) (hn : n + 958 ≤ 7198825)
    (K : ∀ (T : Nat) (σ2 : k_S) (k2 n2 : Nat), q_I T σ2 σ2 → k2 ≤ k + 12 → n2 ≤ n + 958 → k_W X σ2 k2 n2 2111 (w_L b i none none none) []) : k_W X σ k n 1895 (w_L b i none none none) [] := by
  obtain ⟨hla, h, hMe, hX, hbl, hbA, hLn⟩ := id C
  obtain ⟨kx, σ1, v, σ2, T2, e1, e2, hth, hv, hI2⟩ := g_count hI ((xs (i + 1)).toUInt32 % 65536).toInt32
  have K2 := K T2 σ2 (k + 1 + 0) (n + 6 + 0) hI2 (by omega) (by omega)
  refine r_aload_n h dL_law_1895 rfl ?_
  refine w_arg C 1 (by omega) dL_law_1896 dL_law_1897 dL_law_1899 (by decide) dL_law_1900 dL_law_1901 ?_
  refine r_i2c h dL_law_1902 ?_
  refine r_aload_n h dL_law_1903 rfl ?_
  refine r_callSW h hMe (rest := []) (as := [k_p 0 0, k_i ((xs (i + 1)).toUInt32 % 65536).toInt32, k_p 18 0]) (oc := .inl (k_mI kx, σ1)) (j_L_count la hla G _ 0 ((xs (i + 1)).toUInt32 % 65536).toInt32 0 (kx, σ1) e1) kl_L_220 dL_law_1904 rfl rfl ⟨rfl, rfl, Nat.le_of_ble_eq_true rfl, Nat.le_of_ble_eq_true rfl, by show k + 1 ≤ 603072; omega, by show n + 6 ≤ 7198825; omega, Nat.le_of_ble_eq_true rfl⟩ (fun E q => by cases q) (fun r s q => ?_)
  cases q
  show k_W X _ _ _ _ _ [k_i kx]
  refine r_istore (L' := w_L b i (some (k_i kx)) none none) h dL_law_1907 (by decide) rfl ?_
  refine r_aload_n h dL_law_1909 rfl ?_
  refine w_arg C 1 (by omega) dL_law_1910 dL_law_1911 dL_law_1913 (by decide) dL_law_1914 dL_law_1915 ?_
  refine r_i2c h dL_law_1916 ?_
  refine r_callV h hMe (rest := []) (as := [k_i ((xs (i + 1)).toUInt32 % 65536).toInt32]) (oc := .inl (k_mI v, σ2)) (j_X8_count la hla G _ 0 ((xs (i + 1)).toUInt32 % 65536).toInt32 (v, σ2) e2) kl_L_223 dL_law_1917 rfl rfl rfl rfl rfl ⟨rfl, rfl, Nat.le_of_ble_eq_true rfl, Nat.le_of_ble_eq_true rfl, by show k + 1 + 0 ≤ 603072; omega, by show n + 6 + 0 ≤ 7198825; omega, Nat.le_of_ble_eq_true rfl⟩ (fun E q => by cases q) (fun r s q => ?_)
  cases q
  show k_W X _ _ _ _ _ [k_i v]
  exact w_tail C ⟨dL_law_1920, dL_law_1922, dL_law_1923, dL_law_1926, dL_law_1928, dL_law_1933, dL_law_1935, dL_law_1938, dL_law_1939, dL_law_1940, dL_law_1941, dL_law_1943, dL_law_1944, dL_law_1945, dL_law_1950, by decide⟩ hth hv ⟨by omega, by omega⟩ K2
theorem w_case_meanEvidence {X : k_X} {la : Launch} {G : k_G} {σ0 : k_S} {nm : String} {b Ln : Nat} {xs : Nat → Int32} (C : w_C X la G σ0 nm b Ln xs) {σ : k_S} {T k n i : Nat} (hI : q_I T σ σ) (hi : i + 6 ≤ Ln) (hk : k + 12 ≤ 603072) (hn : n + 958 ≤ 7198825)
    (K : ∀ (T : Nat) (σ2 : k_S) (k2 n2 : Nat), q_I T σ2 σ2 → k2 ≤ k + 12 → n2 ≤ n + 958 → k_W X σ2 k2 n2 2111 (w_L b i none none none) []) : k_W X σ k n 1953 (w_L b i none none none) [] := by
  obtain ⟨hla, h, hMe, hX, hbl, hbA, hLn⟩ := id C
  obtain ⟨kx, σ1, v, σ2, T2, e1, e2, hth, hv, hI2⟩ := g_meanEvidence hI
  have K2 := K T2 σ2 (k + 1 + 0) (n + 6 + 0) hI2 (by omega) (by omega)
  refine r_aload_n h dL_law_1953 rfl ?_
  refine r_aload h dL_law_1954 rfl ?_
  refine r_callSW h hMe (rest := []) (as := [k_p 0 0, k_p 19 0]) (oc := .inl (k_mI kx, σ1)) (j_L_meanEvidence la hla G _ 0  0 (kx, σ1) e1) kl_L_224 dL_law_1956 rfl rfl ⟨rfl, rfl, Nat.le_of_ble_eq_true rfl, Nat.le_of_ble_eq_true rfl, by show k + 1 ≤ 603072; omega, by show n + 6 ≤ 7198825; omega, Nat.le_of_ble_eq_true rfl⟩ (fun E q => by cases q) (fun r s q => ?_)
  cases q
  show k_W X _ _ _ _ _ [k_i kx]
  refine r_istore (L' := w_L b i (some (k_i kx)) none none) h dL_law_1959 (by decide) rfl ?_
  refine r_aload_n h dL_law_1961 rfl ?_
  refine r_callV h hMe (rest := []) (as := []) (oc := .inl (k_mD v, σ2)) (j_X8_meanEvidence la hla G _ 0 (v, σ2) e2) kl_L_227 dL_law_1962 rfl rfl rfl rfl rfl ⟨rfl, rfl, Nat.le_of_ble_eq_true rfl, Nat.le_of_ble_eq_true rfl, by show k + 1 + 0 ≤ 603072; omega, by show n + 6 + 0 ≤ 7198825; omega, Nat.le_of_ble_eq_true rfl⟩ (fun E q => by cases q) (fun r s q => ?_)
  cases q
  show k_W X _ _ _ _ _ [k_d v]
  exact w_tailD C hth hv ⟨by omega, by omega⟩ K2
theorem w_case_reversedShare {X : k_X} {la : Launch} {G : k_G} {σ0 : k_S} {nm : String} {b Ln : Nat} {xs : Nat → Int32} (C : w_C X la G σ0 nm b Ln xs) {σ : k_S} {T k n i : Nat} (hI : q_I T σ σ) (hi : i + 6 ≤ Ln) (hk : k + 12 ≤ 603072) (hn : n + 958 ≤ 7198825)
    (K : ∀ (T : Nat) (σ2 : k_S) (k2 n2 : Nat), q_I T σ2 σ2 → k2 ≤ k + 12 → n2 ≤ n + 958 → k_W X σ2 k2 n2 2111 (w_L b i none none none) []) : k_W X σ k n 2018 (w_L b i none none none) [] := by
  obtain ⟨hla, h, hMe, hX, hbl, hbA, hLn⟩ := id C
  obtain ⟨kx, σ1, v, σ2, T2, e1, e2, hth, hv, hI2⟩ := g_reversedShare hI
  have K2 := K T2 σ2 (k + 1 + 0) (n + 6 + 0) hI2 (by omega) (by omega)
  refine r_aload_n h dL_law_2018 rfl ?_
  refine r_aload h dL_law_2019 rfl ?_
  refine r_callSW h hMe (rest := []) (as := [k_p 0 0, k_p 19 0]) (oc := .inl (k_mI kx, σ1)) (j_L_reversedShare la hla G _ 0  0 (kx, σ1) e1) kl_L_228 dL_law_2021 rfl rfl ⟨rfl, rfl, Nat.le_of_ble_eq_true rfl, Nat.le_of_ble_eq_true rfl, by show k + 1 ≤ 603072; omega, by show n + 6 ≤ 7198825; omega, Nat.le_of_ble_eq_true rfl⟩ (fun E q => by cases q) (fun r s q => ?_)
  cases q
  show k_W X _ _ _ _ _ [k_i kx]
  refine r_istore (L' := w_L b i (some (k_i kx)) none none) h dL_law_2024 (by decide) rfl ?_
  refine r_aload_n h dL_law_2026 rfl ?_
  refine r_callV h hMe (rest := []) (as := []) (oc := .inl (k_mF v, σ2)) (j_X8_reversedShare la hla G _ 0 (v, σ2) e2) kl_L_230 dL_law_2027 rfl rfl rfl rfl rfl ⟨rfl, rfl, Nat.le_of_ble_eq_true rfl, Nat.le_of_ble_eq_true rfl, by show k + 1 + 0 ≤ 603072; omega, by show n + 6 + 0 ≤ 7198825; omega, Nat.le_of_ble_eq_true rfl⟩ (fun E q => by cases q) (fun r s q => ?_)
  cases q
  show k_W X _ _ _ _ _ [k_f v]
  exact w_tailF C hth hv ⟨by omega, by omega⟩ K2
theorem w_case_sanctionDays {X : k_X} {la : Launch} {G : k_G} {σ0 : k_S} {nm : String} {b Ln : Nat} {xs : Nat → Int32} (C : w_C X la G σ0 nm b Ln xs) {σ : k_S} {T k n i : Nat} (hI : q_I T σ σ) (hi : i + 6 ≤ Ln) (hk : k + 12 ≤ 603072) (hn : n + 958 ≤ 7198825)
    (K : ∀ (T : Nat) (σ2 : k_S) (k2 n2 : Nat), q_I T σ2 σ2 → k2 ≤ k + 12 → n2 ≤ n + 958 → k_W X σ2 k2 n2 2111 (w_L b i none none none) []) : k_W X σ k n 2084 (w_L b i none none none) [] := by
  obtain ⟨hla, h, hMe, hX, hbl, hbA, hLn⟩ := id C
  obtain ⟨v, σ2, e1, e2, hI2⟩ := g_sanctionDays hI
  have K2 := K T σ2 (k + 0 + 0) (n + 0 + 0) hI2 (by omega) (by omega)
  refine r_aload_n h dL_law_2084 rfl ?_
  refine r_callV h hMe (rest := []) (as := []) (oc := .inl (k_mJ v, σ)) (j_X7_sanctionDays la hla G _ 0 v e1) kl_L_231 dL_law_2085 rfl rfl rfl rfl rfl ⟨rfl, rfl, Nat.le_of_ble_eq_true rfl, Nat.le_of_ble_eq_true rfl, by show k + 0 ≤ 603072; omega, by show n + 0 ≤ 7198825; omega, Nat.le_of_ble_eq_true rfl⟩ (fun E q => by cases q) (fun r s q => ?_)
  cases q
  show k_W X _ _ _ _ _ [k_l v]
  refine r_aload_n h dL_law_2088 rfl ?_
  refine r_callV h hMe (rest := [k_l v]) (as := []) (oc := .inl (k_mJ v, σ2)) (j_X8_sanctionDays la hla G _ 0 (v, σ2) e2) kl_L_235 dL_law_2089 rfl rfl rfl rfl rfl ⟨rfl, rfl, Nat.le_of_ble_eq_true rfl, Nat.le_of_ble_eq_true rfl, by show k + 0 + 0 ≤ 603072; omega, by show n + 0 + 0 ≤ 7198825; omega, Nat.le_of_ble_eq_true rfl⟩ (fun E q => by cases q) (fun r s q => ?_)
  cases q
  show k_W X _ _ _ _ _ [k_l v, k_l v]
  refine r_lcmp h dL_law_2092 ?_
  exact r_if_eq (tgt := 2111) h dL_law_2093 (by decide) (fun _ => K2) (fun c => absurd ((lg_cmp_eq _ _).mpr rfl) c)
theorem w_case_isConsistent {X : k_X} {la : Launch} {G : k_G} {σ0 : k_S} {nm : String} {b Ln : Nat} {xs : Nat → Int32} (C : w_C X la G σ0 nm b Ln xs) {σ : k_S} {T k n i : Nat} (hI : q_I T σ σ) (hi : i + 6 ≤ Ln) (hk : k + 12 ≤ 603072) (hn : n + 958 ≤ 7198825)
    (K : ∀ (T : Nat) (σ2 : k_S) (k2 n2 : Nat), q_I T σ2 σ2 → k2 ≤ k + 12 → n2 ≤ n + 958 → k_W X σ2 k2 n2 2111 (w_L b i none none none) []) : k_W X σ k n 2098 (w_L b i none none none) [] := by
  obtain ⟨hla, h, hMe, hX, hbl, hbA, hLn⟩ := id C
  obtain ⟨v, σ1, σ2, e1, e2, hI2⟩ := g_isConsistent hI
  have K2 := K T σ2 (k + 0 + 0) (n + 0 + 0) hI2 (by omega) (by omega)
  refine r_aload_n h dL_law_2098 rfl ?_
  refine r_callV h hMe (rest := []) (as := []) (oc := .inl (k_mI v, σ1)) (j_X7_isConsistent la hla G _ 0 (v, σ1) e1) kl_L_236 dL_law_2099 rfl rfl rfl rfl rfl ⟨rfl, rfl, Nat.le_of_ble_eq_true rfl, Nat.le_of_ble_eq_true rfl, by show k + 0 ≤ 603072; omega, by show n + 0 ≤ 7198825; omega, Nat.le_of_ble_eq_true rfl⟩ (fun E q => by cases q) (fun r s q => ?_)
  cases q
  show k_W X _ _ _ _ _ [k_i v]
  refine r_aload_n h dL_law_2102 rfl ?_
  refine r_callV h hMe (rest := [k_i v]) (as := []) (oc := .inl (k_mI v, σ2)) (j_X8_isConsistent la hla G _ 0 (v, σ2) e2) kl_L_240 dL_law_2103 rfl rfl rfl rfl rfl ⟨rfl, rfl, Nat.le_of_ble_eq_true rfl, Nat.le_of_ble_eq_true rfl, by show k + 0 + 0 ≤ 603072; omega, by show n + 0 + 0 ≤ 7198825; omega, Nat.le_of_ble_eq_true rfl⟩ (fun E q => by cases q) (fun r s q => ?_)
  cases q
  show k_W X _ _ _ _ _ [k_i v, k_i v]
  exact r_icmp_eq (tgt := 2111) h dL_law_2106 (by decide) (fun _ => K2) (fun c => absurd rfl c)
