/-- the list's object changed in its count of changes only -/
theorem k_HR.bump {G : k_G} {A : k_A} {E : Nat → Nat} {σ : k_S} {H H1 : Heap} {l : Nat} (h : k_HR G A E σ H) (hB : G.2.2.2.1 < G.2.2.1) (hl : k_isL l = true) (hn : 0 < k_N σ l) (hz : H1.size = H.size) (hk : ∀ a : Nat, a ≠ A l 0 → H1[a]? = H[a]?) (mc : Int32)
    (hob : t_OB (A l 0) (G.1.1 0) 3 (G.1.2 0) H1 (vp_V [.int mc, .ref (E l), .int (nI (k_Z σ l))])) : k_HR G A E σ H1 := by
  obtain ⟨-, mc0, cap, d2, d3, d4, d5, d6⟩ := h.2.2.2.2.2 l hl hn
  have hE : E l ≠ A l 0 := by
    have h0 := (h.2.2.1 l 0 hn).1
    rcases d6 with ⟨-, q⟩ | ⟨-, -, q, -⟩
    · omega
    · exact fun z => q l 0 hn z.symm
  refine h.list (E' := E) hB hl hn (by omega) (fun a _ h2 _ => hk a h2) rfl rfl rfl rfl (fun _ _ => rfl) (fun _ _ _ _ => rfl) (fun k j hP => ?_) (fun _ _ => rfl) (Or.inl rfl) ⟨mc, cap, hob, by rw [hk _ hE]; exact d3, d4, d5, d6⟩
  have hkd := (k_isL_kd (k := k) hl).1
  have := h.2.2.2.1 l 0 k j hn (by rw [hkd]; omega) hP
  rw [hkd, Nat.add_sub_cancel] at this
  exact this
theorem k_ncap_le (z : Nat) (h : z ≤ 200) : k_ncap z ≤ 300 := by
  unfold k_ncap
  split
  · omega
  · split <;> omega
set_option maxHeartbeats 1000000 in
theorem j_add (la : Launch) (hla : la.flags = flags0) (G : k_G) (σ : k_S) (l j : Nat) (hl : k_isL l = true) (hZ : k_Z σ l ≤ 200) : k_Ct la G yJx4a65c_add_9ea2d (k_ws yJx4a65c_add_9ea2d cJx4a65c_add_9ea2d 2 (some .boolean)) { frames := 6, cells := 1, slots := 300, locals := 210 } [k_p l 0, k_p (l - 10) j] σ (.inl (some (k_i 1), k_ladd σ l j)) 1 300 := by
  intro A E
  refine vx_ofW (cc := cJx4a65c_add_9ea2d) (maxL := 2) (ret := some .boolean) (by decide +kernel) rfl ?_
  intro p e s m args below meth c s₁ B hml ht hP
  obtain ⟨rfl, hKS, hR, has⟩ := hP
  have hts0 := atoms_spec (ws := k_ws yJx4a65c_add_9ea2d cJx4a65c_add_9ea2d 2 (some .boolean)) B.pre
  have hts : ∀ w ∈ k_Tb, w.before _ s = true := fun w h => hts0 w (List.mem_cons_of_mem _ h)
  obtain ⟨ls, e1, hlc⟩ := k_entry (A := A) (as := [k_p l 0, k_p (l - 10) j]) (m := m) (maxL := 2) (fun v hv => by simp at hv; rcases hv with rfl | rfl <;> rfl) (Nat.le_refl _)
  rw [e1]
  have hx := B.exec
  have hb : c.code = cJx4a65c_add_9ea2d := B.bytes
  have hown : s.vm.findClass RJx4a65c = some m.cls := findClass_of_methodNamed B.named
  have hlocks := B.notSynchronized
  have hr : meth.sig.returnType = some .boolean := B.returns
  have hn : 0 < k_N σ l := has (k_p l 0) (by simp)
  have hj : j < k_N σ (l - 10) := has (k_p (l - 10) j) (by simp)
  have hBB := hKS.2.2.2.2.2.2.2.2.1
  obtain ⟨mc0, hP⟩ := k_lob hR hl hn
  have hob : t_OB (A l 0) (G.1.1 0) 3 (G.1.2 0) s.heap (vp_V [.int mc0, .ref (E l), .int (nI (k_Z σ l))]) := by
    obtain ⟨r3, hr3, ho3⟩ := hP 0 _ rfl
    cases hr3
    exact ho3
  refine lv_aload_n hx hb dJx4a65c_add_9ea2d_0 rfl (hlc.2.2 _ (k_p l 0) rfl) ?_
  refine lv_dup hx hb dJx4a65c_add_9ea2d_1 rfl ?_
  refine va_get (D := G.1) (ci := 0) (v := .int mc0) (ref := RJx4a65c) (C := RJx4a65c) (T := TJx4a65c) (N := 3) hx hb hts kw_0 hown hKS.1 hP 0 rfl rfl 0 (by decide) (hts _ wd_56) (u_same (hts _ wd_57)) rfl dJx4a65c_add_9ea2d_2 ?_
  refine lv_iconst (v := 1) hx hb dJx4a65c_add_9ea2d_5 (by decide) ?_
  refine lv_iadd hx hb dJx4a65c_add_9ea2d_6 ?_
  refine k_putL (ty := .int) (f := 0) (v := .int (mc0 + 1)) hx hb hown hts hKS.1 rfl (by decide) hob wd_56 (u_same (hts _ wd_57)) rfl rfl rfl dJx4a65c_add_9ea2d_7 (fun H1 k1 ho1 z1 o1 => ?_)
  have hR1 := hR.bump hBB hl hn z1 o1 _ ho1
  have hS1 : va_S (fun q => G.2.2.1 ≤ q) s.heap H1 ([] ++ [⟨A l 0, k1⟩]) := va_S.rf.put z1 o1 (hR.2.2.1 l 0 hn).1
  obtain ⟨mc1, hP1⟩ := k_lob hR1 hl hn
  have hrec : ∃ cell : Cell, H1[A l 0]? = some cell ∧ cell.vm.isStatics = false ∧ s.vm.findClass RJx4a65c = some cell.cls := va_recv hKS.1 hP1 (ci := 0) (q0 := 0) (q := (RJx4a65c, TJx4a65c, 3)) rfl rfl
  refine lv_aload_n hx hb dJx4a65c_add_9ea2d_10 rfl (hlc.2.2 _ (k_p l 0) rfl) ?_
  refine lv_aload_n hx hb dJx4a65c_add_9ea2d_11 rfl (hlc.2.2 _ (k_p (l - 10) j) rfl) ?_
  refine lv_aload_n hx hb dJx4a65c_add_9ea2d_12 rfl (hlc.2.2 _ (k_p l 0) rfl) ?_
  refine va_get (D := G.1) (ci := 0) (v := .ref (E l)) (C := RJx4a65c) (T := TJx4a65c) (N := 3) hx hb hts kw_0 hown hKS.1 hP1 0 rfl rfl 1 (by decide) (hts _ wd_53) (fun _ h9 => h9) rfl dJx4a65c_add_9ea2d_13 ?_
  refine lv_aload_n hx hb dJx4a65c_add_9ea2d_16 rfl (hlc.2.2 _ (k_p l 0) rfl) ?_
  refine va_get (D := G.1) (ci := 0) (v := .int (nI (k_Z σ l))) (C := RJx4a65c) (T := TJx4a65c) (N := 3) hx hb hts kw_0 hown hKS.1 hP1 0 rfl rfl 2 (by decide) (hts _ wd_54) (fun _ h9 => h9) rfl dJx4a65c_add_9ea2d_17 ?_
  have hms := k_ncap_le (k_Z σ l) hZ
  refine k_afterR (rest := []) (a := [Value.ref (A l 0), Value.ref (A (l - 10) j), Value.ref (E l), Value.int (nI (k_Z σ l))].toArray) (Qx := k_Qadd G σ l j none A E) hS1 (vx_runV (C := RJx4a65c) (b := A l 0) (As := [Value.ref (A (l - 10) j), Value.ref (E l), Value.int (nI (k_Z σ l))]) (rest := []) (nL := 2) ⟨hx, hb, hml, hown, hts⟩ (j_add3 la hla G σ l j (k_ncap (k_Z σ l)) hl hn hZ rfl hj A E) ⟨k_callB hts kl_Jx4a65c_131.1 rfl rfl (Nat.le_refl _) (by show 8 + (4 + 11) + 180 ≤ 210; omega), hts _ kl_Jx4a65c_131.2.1, hts _ kl_Jx4a65c_131.2.2⟩ ⟨k_Px.blind (Px := fun _ _ _ => True), hrec, fun U hU hW => ⟨⟨rfl, hKS.call hW hU hS1, by rw [hU]; exact hR1, fun v hv => by simp at hv; rcases hv with rfl | rfl | rfl | rfl <;> first | trivial | exact hn | exact hj⟩, trivial⟩⟩ rfl rfl hlc.1 rfl (lv_room (Nat.zero_le _)) dJx4a65c_add_9ea2d_20 ⟨Nat.le_refl _, by show 0 + k_ncap (k_Z σ l) ≤ 300; omega⟩) (fun v st t locs1 hst hq hS9 => ?_)
  obtain ⟨hv, E', hR9⟩ := hq
  cases hv
  refine lv_iconst (v := 1) hx hb dJx4a65c_add_9ea2d_23 (by decide) ?_
  refine W.widen (k := 1) (n := 300) (Nat.le_refl _) (by omega) (vx_ret ?_)
  refine W.zret hx hb hr (by decide) (fun t9 ht hW => ⟨some (k_i 1), k_ladd σ l j, A, E', rfl, rfl, fun l' i' h' => ⟨h', rfl⟩, by rw [ht]; exact hR9, (fun v q => by cases q; trivial), hS9.F ht⟩) hS9.2.2 dJx4a65c_add_9ea2d_24 hlocks
