/-! ===== JDK: newLength, copyOf, grow ===== -/
theorem j_newLen (la : Launch) (hla : la.flags = flags0) (G : k_G) (σ : k_S) (a b c : Int32) (z : Int32) (hz : (a + (if b < c then c else b)) = z) (h0 : ¬ z ≤ 0) (h1 : ¬ 2147483639 < z) : k_CtR la G yJ8_newLength_cabcc (k_ws yJ8_newLength_cabcc cJ8_newLength_cabcc 4 (some .int)) { frames := 1, cells := 0, slots := 0, locals := 22 } (fun _ => [k_i a, k_i b, k_i c]) σ (fun _ _ _ => True) (fun _ _ st o t => o = .returned (some (.int z)) ∧ t.heap = st.heap) 0 0 := by
  refine k_bodyR hla (by decide +kernel) (fun E v hv => by simp at hv; rcases hv with rfl | rfl | rfl <;> rfl) (fun E => Nat.le_of_ble_eq_true rfl) ?_
  intro A E p e s m args below meth c0 Q ls hW hR hos hfull hlc
  obtain ⟨hx, hb, hml, hown, hts, hKS, hlocks, hr, -, hfl, rfl⟩ := hW
  have hown : s.vm.findClass RJ8 = some m.cls := hown
  refine lv_iload_n hx hb dJ8_newLength_cabcc_0 rfl (hlc.2.2 _ (k_i a) rfl) ?_
  refine lv_iload_n hx hb dJ8_newLength_cabcc_1 rfl (hlc.2.2 _ (k_i b) rfl) ?_
  refine lv_iload_n hx hb dJ8_newLength_cabcc_2 rfl (hlc.2.2 _ (k_i c) rfl) ?_
  refine va_mmax hx hb (by rw [hml]; exact hlc.1.symm) hown (hts _ wd_376) (hts _ wd_377) (hts _ wd_14) (hts _ wd_378) (Nat.le_refl _) (by show 1 + 13 ≤ 22; omega) (Nat.le_refl _) (Nat.le_refl _) dJ8_newLength_cabcc_3 ?_
  refine lv_iadd hx hb dJ8_newLength_cabcc_6 ?_
  rw [hz]
  refine lv_istore_n (lv' := _) hx hb dJ8_newLength_cabcc_7 rfl hlc.lv (by decide) rfl (fun ls hl9 => ?_)
  have hlc := k_has.st (A := A) (v := k_i z) hl9
  refine lv_iconst (v := 0) hx hb dJ8_newLength_cabcc_8 (by decide) ?_
  refine lv_iload_n hx hb dJ8_newLength_cabcc_9 rfl (hlc.2.2 _ (k_i z) rfl) ?_
  refine lv_icmp_ge (tgt := 21) hx hb dJ8_newLength_cabcc_10 (by decide) (fun q => absurd q h0) (fun _ => ?_)
  refine lv_iload_n hx hb dJ8_newLength_cabcc_13 rfl (hlc.2.2 _ (k_i z) rfl) ?_
  refine lv_ldc hx hb hown (hts _ wd_379) dJ8_newLength_cabcc_14 ?_
  refine lv_icmp_gt (tgt := 21) hx hb dJ8_newLength_cabcc_16 (by decide) (fun q => absurd q h1) (fun _ => ?_)
  refine lv_iload_n hx hb dJ8_newLength_cabcc_19 rfl (hlc.2.2 _ (k_i z) rfl) ?_
  refine vx_ret ?_
  exact W.iret hx hb hr (fun t ht hW => ⟨⟨rfl, ht⟩, va_S.rf.F ht⟩) (fun _ h => by cases h) dJ8_newLength_cabcc_20 hlocks
/-- the array of list l is full -/
def k_full (G : k_G) (σ : k_S) (l : Nat) (_ : k_A) (E : Nat → Nat) (H : Heap) : Prop := ∃ f : Nat → Value, H[E l]? = some (k_av G (k_Z σ l) f)
/-- what a copy comes to: a new array, all else as it was -/
def k_Qcopy (G : k_G) (σ : k_S) (l n : Nat) (A : k_A) (_ : Nat → Nat) : State → Outcome → State → Prop := fun st o t => ∃ q : Nat, o = .returned (some (.ref q)) ∧ st.heap.size ≤ q ∧ (∀ a : Nat, a < st.heap.size → t.heap[a]? = st.heap[a]?) ∧
  t.heap[q]? = some (arrV (G.2.1 5) n (fun j => va_rf (if j < k_Z σ l then (k_P σ l 0 j).map (A (l - 10)) else none)))
theorem k_lcell {G : k_G} {A : k_A} {E : Nat → Nat} {σ : k_S} {H : Heap} {l : Nat} (hEA : k_EA G) (hR : k_HR G A E σ H) (hl : k_isL l = true) (hn : 0 < k_N σ l) (hf : k_full G σ l A E H) : H[E l]? = some (k_av G (k_Z σ l) (fun j => va_rf (if j < k_Z σ l then (k_P σ l 0 j).map (A (l - 10)) else none))) := by
  obtain ⟨f, hf⟩ := hf
  obtain ⟨-, mc, cap, -, d3, -⟩ := hR.2.2.2.2.2 l hl hn
  have e := d3.symm.trans hf
  have e2 : cap = k_Z σ l := by
    have := congrArg (fun o : Option Cell => o.map fun x => x.slots.size) e
    simp only [Option.map_some, k_av_size hEA, Option.some.injEq] at this
    exact this
  rw [e2] at d3
  exact d3
set_option maxHeartbeats 1000000 in
theorem j_copy3 (la : Launch) (hla : la.flags = flags0) (G : k_G) (σ : k_S) (l n : Nat) (hl : k_isL l = true) (hn : 0 < k_N σ l) (hZ0 : 0 < k_Z σ l) (hZ : k_Z σ l ≤ n) (hn2 : n ≤ 1000) : k_CtR la G yJ7_copyOf_6403c (k_ws yJ7_copyOf_6403c cJ7_copyOf_6403c 4 (some (.array (.object "java/lang/Object")))) { frames := 1, cells := 1, slots := n, locals := 40 } (fun E => [k_r (E l), k_i (nI n), k_r (G.2.2.2.2.1 1000)]) σ (k_full G σ l) (k_Qcopy G σ l n) 1 n := by
  refine k_bodyR hla (by decide +kernel) (fun E v hv => by simp at hv; rcases hv with rfl | rfl | rfl <;> rfl) (fun E => Nat.le_of_ble_eq_true rfl) ?_
  intro A E p e s m args below meth c Q ls hW hR hos hfull hlc
  obtain ⟨hx, hb, hml, hown, hts, hKS, hlocks, hr, -, hfl, rfl⟩ := hW
  have hown : s.vm.findClass RJ7 = some m.cls := hown
  have hMj := hKS.2.2.2.2.2.2.2.2.2.1
  have hc0 := k_lcell hKS.ea hR hl hn hfull
  rw [k_av_n hZ0] at hc0
  have hO := hKS.2.2.2.2.2.2.2.2.2.2.1
  refine lv_aload_n hx hb dJ7_copyOf_6403c_0 rfl (hlc.2.2 _ (k_r (G.2.2.2.2.1 1000)) rfl) ?_
  refine va_ldcM hx hb hown (hts _ wd_410) hMj dJ7_copyOf_6403c_1 ?_
  refine lv_acmp_ne (rx := some (G.2.2.2.2.1 1000)) (ry := some (G.2.2.2.2.1 1000)) (tgt := 13) hx hb dJ7_copyOf_6403c_3 (by decide) (fun q => absurd rfl q) (fun _ => ?_)
  refine lv_iload_n hx hb dJ7_copyOf_6403c_6 rfl (hlc.2.2 _ (k_i (nI n)) rfl) ?_
  have hnc : (nI n).toNatClampNeg = n := nI_clamp (by omega)
  refine W.anew hx hb hown (hts _ wd_412) (va_AO.use hO) rfl dJ7_copyOf_6403c_7 rfl (nI_pos (by omega)) (by rw [hnc]; omega) (Nat.le_refl _) (by rw [hnc]; exact Nat.le_of_eq (Nat.zero_add n)) (fun cA kA comp f1 f2 f3 f4 => ?_)
  have ec : cA = G.2.1 5 := Option.some.inj (f1.symm.trans ((hKS.1.2 5 _ rfl).2).choose_spec.choose_spec.2.2.2)
  subst ec
  rw [hnc]
  generalize hH1 : s.heap.push ({ cls := G.2.1 5, slots := Array.replicate n .null, vm := .none } : Cell) = H1
  have z1 : H1.size = s.heap.size + 1 := by rw [← hH1]; simp
  have o1 : ∀ q : Nat, q < s.heap.size → H1[q]? = s.heap[q]? := fun q hq => by
    rw [← hH1, Array.getElem?_push, if_neg (Nat.ne_of_lt hq)]
  have e1 : H1[s.heap.size]? = some (arrV (G.2.1 5) n (fun _ => .null)) := by
    rw [← hH1, ← arrV_new]
    simp
  refine W.eq (g2 := F0 m 10 ls [.ref s.heap.size]) rfl ?_
  refine lv_goto (tgt := 24) hx hb dJ7_copyOf_6403c_10 (by decide) ?_
  refine lv_astore_n (lv' := _) hx hb dJ7_copyOf_6403c_24 rfl hlc.lv (by decide) rfl (fun ls hl9 => ?_)
  have hlc := k_has.st (A := A) (v := k_r s.heap.size) hl9
  refine lv_aload_n hx hb dJ7_copyOf_6403c_25 rfl (hlc.2.2 _ (k_r (E l)) rfl) ?_
  refine lv_iconst (v := 0) hx hb dJ7_copyOf_6403c_26 (by decide) ?_
  refine lv_aload_n hx hb dJ7_copyOf_6403c_27 rfl (hlc.2.2 _ (k_r s.heap.size) rfl) ?_
  refine lv_iconst (v := 0) hx hb dJ7_copyOf_6403c_28 (by decide) ?_
  refine lv_aload_n hx hb dJ7_copyOf_6403c_29 rfl (hlc.2.2 _ (k_r (E l)) rfl) ?_
  have hEl : E l < s.heap.size := (Array.getElem?_eq_some_iff.mp hc0).1
  have hc1 := (o1 _ hEl).trans hc0
  refine W.alen (n := nI (k_Z σ l)) hx hb hc1 (k_arrT hKS.1 (t := 5) rfl _ _) (by rw [arrV_size] <;> rfl) rfl rfl dJ7_copyOf_6403c_30 ?_
  refine lv_iload_n hx hb dJ7_copyOf_6403c_31 rfl (hlc.2.2 _ (k_i (nI n)) rfl) ?_
  refine va_mmin hx hb (by rw [hml]; exact hlc.1.symm) hown (hts _ wd_413) (hts _ wd_155) (hts _ wd_14) (hts _ wd_156) (Nat.le_refl _) (by show 4 + 13 ≤ 40; omega) (Nat.le_refl _) (by show 0 + n ≤ n; omega) dJ7_copyOf_6403c_32 ?_
  rw [if_neg (nI_nlt hZ (by omega))]
  have hP0 : va_P G.1 k_cl [(E l, .inl (G.2.1 5, (k_Z σ l, .inr (.inr (.inr (.inr (fun j => if j < k_Z σ l then (k_P σ l 0 j).map (A (l - 10)) else none))))))), (s.heap.size, .inl (G.2.1 5, (n, .inr (.inr (.inr (.inr (fun _ => none)))))))] H1 := by
    intro k q hk
    match k, hk with
    | 0, hk => cases hk; show H1[E l]? = _; rw [hc1]; rfl
    | 1, hk => cases hk; show H1[s.heap.size]? = _; rw [e1]; rfl
  have hD0 : va_D (fun q => s.heap.size ≤ q ∨ q = E l) [(E l, .inl (G.2.1 5, (k_Z σ l, .inr (.inr (.inr (.inr (fun j => if j < k_Z σ l then (k_P σ l 0 j).map (A (l - 10)) else none))))))), (s.heap.size, .inl (G.2.1 5, (n, .inr (.inr (.inr (.inr (fun _ => none)))))))] := by
    refine ⟨fun i j p q hi hj e => ?_, fun k q hk => ?_⟩
    · match i, hi, j, hj with
      | 0, hi, 0, hj => rfl
      | 1, hi, 1, hj => rfl
      | 0, hi, 1, hj => cases hi; cases hj; simp at e; omega
      | 1, hi, 0, hj => cases hi; cases hj; simp at e; omega
    · match k, hk with
      | 0, hk => cases hk; exact Or.inr rfl
      | 1, hk => cases hk; exact Or.inl (Nat.le_refl _)
  have hBE : G.2.2.1 ≤ E l := by
    obtain ⟨-, mc, cap, -, d3, d4, -, d6⟩ := hR.2.2.2.2.2 l hl hn
    rcases d6 with ⟨q, -⟩ | ⟨-, q, -⟩
    · omega
    · exact q
  have hBs : G.2.2.1 ≤ s.heap.size := hKS.2.1
  have hS0 : va_S (fun q => s.heap.size ≤ q ∨ q = E l) s.heap H1 [] := ⟨by omega, fun q h1 h2 => o1 q h1, fun _ h => by cases h⟩
  refine va_copyM hx hb (by rw [hml]; exact hlc.1.symm) hown (hts _ wd_414) (hts _ wd_416) (hts _ wd_415) (hts _ wd_16) hKS.1 hP0 hD0 hS0 0 1 5 5 (E0 := "java/lang/Object") (E1 := "java/lang/Object") rfl rfl rfl rfl (by decide) (by decide) (nI_pos (by omega)) (by rw [nI_clamp (show k_Z σ l < 2 ^ 31 by omega)]; show 0 + _ ≤ _; omega) (by rw [nI_clamp (show k_Z σ l < 2 ^ 31 by omega)]; show 0 + _ ≤ _; omega) (fun i hi y hy => ?_) (Nat.le_refl _) (by
      have hw : nativeFrameWords "java/lang/System" "arraycopy" 5 + 11 ≤ 40 := by decide
      exact hw) dJ7_copyOf_6403c_35 (fun H2 locs2 hP2 hD2 hS2 => ?_)
  · rw [nI_clamp (show k_Z σ l < 2 ^ 31 by omega)] at hi
    rw [show (0 : Int32).toNatClampNeg + i = i from Nat.zero_add i, if_pos hi] at hy
    cases hPi : k_P σ l 0 i with
    | none => rw [hPi] at hy; cases hy
    | some j =>
      rw [hPi] at hy
      cases hy
      have hkd := (k_isL_kd (k := i) hl).1
      have hj := hR.2.2.2.1 l 0 i j hn (by rw [hkd]; omega) hPi
      rw [hkd, Nat.add_sub_cancel] at hj
      obtain ⟨cellV, g1, g2, g3, g4⟩ := k_any hR hKS (u := l - 10) (j := j) (by have := (k_isL_kd (k := i) hl).2; omega) (by have := (k_isL_kd (k := i) hl).2; omega) hj
      exact ⟨cellV, by rw [o1 _ (Array.getElem?_eq_some_iff.mp g1).1]; exact g1, g2, g3, g4⟩
  refine lv_aload_n hx hb dJ7_copyOf_6403c_38 rfl (hlc.2.2 _ (k_r s.heap.size) rfl) ?_
  have hS3 : va_S (fun q => G.2.2.1 ≤ q) s.heap H2 locs2 := ⟨hS2.1, fun q h1 h2 => hS2.2.1 q h1 (fun z => h2 (z.elim (fun z => Nat.le_trans hBs z) (fun z => by rw [z]; exact hBE))), fun q hq => (hS2.2.2 q hq).elim (fun z => Nat.le_trans hBs z) (fun z => by rw [z]; exact hBE)⟩
  refine W.widen (k := 1) (n := n) (Nat.le_refl _) (by omega) (vx_ret ?_)
  refine W.aret (v := .ref s.heap.size) (rt := .array (.object "java/lang/Object")) hx hb hr (Or.inr ⟨_, rfl⟩) (Or.inr ⟨_, rfl⟩) (fun t ht hW => ⟨⟨s.heap.size, rfl, Nat.le_refl _, fun a ha => ?_, ?_⟩, hS3.F ht⟩) hS3.2.2 dJ7_copyOf_6403c_39 hlocks
  · rw [ht]
    by_cases e : a = E l
    · subst e
      have := hP2 0 _ rfl
      exact (show H2[E l]? = _ from this).trans hc0.symm
    · exact hS2.2.1 a ha (fun z => z.elim (fun z => by omega) e)
  · rw [ht]
    have h9 : H2[s.heap.size]? = some (vp_cell _ _) := hP2 1 _ rfl
    rw [h9, vp_cell_q]
    congr 2
    funext j
    rw [nI_clamp (show k_Z σ l < 2 ^ 31 by omega)]
    show va_rf (va_cpy _ _ 0 0 _ j) = _
    congr 1
    unfold va_cpy
    by_cases hj : j < k_Z σ l
    · rw [if_pos (by omega), if_pos (by omega)]
      simp [hj]
    · rw [if_neg (by omega), if_neg hj]
theorem j_copy2 (la : Launch) (hla : la.flags = flags0) (G : k_G) (σ : k_S) (l n : Nat) (hl : k_isL l = true) (hn : 0 < k_N σ l) (hZ0 : 0 < k_Z σ l) (hZ : k_Z σ l ≤ n) (hn2 : n ≤ 1000) : k_CtR la G yJ7_copyOf_1904c (k_ws yJ7_copyOf_1904c cJ7_copyOf_1904c 2 (some (.array (.object "java/lang/Object")))) { frames := 2, cells := 1, slots := n, locals := 80 } (fun E => [k_r (E l), k_i (nI n)]) σ (k_full G σ l) (k_Qcopy G σ l n) 1 n := by
  refine k_bodyR hla (by decide +kernel) (fun E v hv => by simp at hv; rcases hv with rfl | rfl <;> rfl) (fun E => Nat.le_of_ble_eq_true rfl) ?_
  intro A E p e s m args below meth c Q ls hW hR hos hfull hlc
  obtain ⟨hx, hb, hml, hown, hts, hKS, hlocks, hr, -, hfl, rfl⟩ := hW
  have hown : s.vm.findClass RJ7 = some m.cls := hown
  have hMj := hKS.2.2.2.2.2.2.2.2.2.1
  have hc0 := k_lcell hKS.ea hR hl hn hfull
  rw [k_av_n hZ0] at hc0
  have hrec : ∃ cell : Cell, s.heap[E l]? = some cell ∧ cell.vm.isStatics = false ∧ s.vm.findClass "[Ljava/lang/Object;" = some cell.cls := ⟨_, hc0, rfl, ((hKS.1.2 5 _ rfl).2).choose_spec.choose_spec.2.2.2⟩
  refine lv_aload_n hx hb dJ7_copyOf_1904c_0 rfl (hlc.2.2 _ (k_r (E l)) rfl) ?_
  refine lv_iload_n hx hb dJ7_copyOf_1904c_1 rfl (hlc.2.2 _ (k_i (nI n)) rfl) ?_
  refine lv_aload_n hx hb dJ7_copyOf_1904c_2 rfl (hlc.2.2 _ (k_r (E l)) rfl) ?_
  refine va_getC (C := "[Ljava/lang/Object;") hx hb (by rw [hml]; exact hlc.1.symm) hown (hts _ wd_386) (va_Nw.use rfl (hKS.2.2.2.2.2.2.2.2.2.2.2.2 _ (by decide +kernel))) (hts _ wd_1287) (hts _ wd_387) (hts _ wd_406) hMj hrec (Nat.le_of_ble_eq_true rfl) (by show 2 + 14 ≤ 80; omega) dJ7_copyOf_1904c_3 ?_
  refine k_afterR (rest := []) (a := [Value.ref (E l), Value.int (nI n), Value.ref (G.2.2.2.2.1 1000)].toArray) (Qx := k_Qcopy G σ l n A E) va_S.rf (vx_runS (As := [Value.ref (E l), Value.int (nI n), Value.ref (G.2.2.2.2.1 1000)]) (rest := []) (nL := 2) ⟨hx, hb, hml, hown, hts⟩ (j_copy3 la hla G σ l n hl hn hZ0 hZ hn2 A E) ⟨k_callB hts kl_J7_300.1 rfl rfl (Nat.le_refl _) (by show 8 + (4 + 11) + 40 ≤ 80; omega), hts _ kl_J7_300.2⟩ ⟨k_Px.blind, fun U hU hW => ⟨⟨rfl, hKS.call hW hU va_S.rf, by rw [hU]; exact hR, fun v hv => by simp at hv; rcases hv with rfl | rfl | rfl <;> trivial⟩, by rw [hU]; exact hfull⟩⟩ rfl rfl (by show ls.size = 2; exact hlc.1) rfl (lv_room (Nat.zero_le _)) dJ7_copyOf_1904c_6 ⟨Nat.le_refl _, by show 0 + n ≤ n; omega⟩) (fun v st t locs1 hst hq hS9 => ?_)
  obtain ⟨q, hv, q1, q2, q3⟩ := hq
  cases hv
  refine W.widen (k := 1) (n := n) (Nat.le_refl _) (by omega) (vx_ret ?_)
  exact W.aret (v := .ref q) (rt := .array (.object "java/lang/Object")) hx hb hr (Or.inr ⟨_, rfl⟩) (Or.inr ⟨_, rfl⟩) (fun t2 ht hW => ⟨⟨q, rfl, by rw [← hst]; exact q1, fun a ha => by rw [ht, q2 a (by rw [hst]; exact ha), hst], by rw [ht]; exact q3⟩, hS9.F ht⟩) hS9.2.2 dJ7_copyOf_1904c_9 hlocks
/-- what growing comes to: the same state, the list's array longer than the list -/
def k_Qgrow (G : k_G) (σ : k_S) (l : Nat) (A : k_A) (_ : Nat → Nat) : State → Outcome → State → Prop := fun _ o t => ∃ (E' : Nat → Nat) (cap : Nat) (f : Nat → Value), o = .returned (some (.ref (E' l))) ∧ k_HR G A E' σ t.heap ∧ k_Z σ l < cap ∧ t.heap[E' l]? = some (arrV (G.2.1 5) cap f)
