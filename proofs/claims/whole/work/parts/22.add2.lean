theorem j_grow0 (la : Launch) (hla : la.flags = flags0) (G : k_G) (σ : k_S) (l ms : Nat) (hl : k_isL l = true) (hn : 0 < k_N σ l) (hZ : k_Z σ l ≤ 200) (hms : k_ncap (k_Z σ l) = ms) : k_CtR la G yJx4a65c_grow_d5877 (k_ws yJx4a65c_grow_d5877 cJx4a65c_grow_d5877 1 (some (.array (.object "java/lang/Object")))) { frames := 4, cells := 1, slots := ms, locals := 150 } (fun _ => [k_p l 0]) σ (k_full G σ l) (k_Qgrow G σ l) 1 ms := by
  refine k_bodyR hla (by decide +kernel) (fun E v hv => by simp at hv; rcases hv with rfl; rfl) (fun E => Nat.le_of_ble_eq_true rfl) ?_
  intro A E p e s m args below meth c Q ls hW hR hos hfull hlc
  obtain ⟨hx, hb, hml, hown, hts, hKS, hlocks, hr, -, hfl, rfl⟩ := hW
  have hown : s.vm.findClass RJx4a65c = some m.cls := hown
  obtain ⟨mc0, hP⟩ := k_lob hR hl hn
  have hrec : ∃ cell : Cell, s.heap[A l 0]? = some cell ∧ cell.vm.isStatics = false ∧ s.vm.findClass RJx4a65c = some cell.cls := va_recv hKS.1 hP (ci := 0) (q0 := 0) (q := (RJx4a65c, TJx4a65c, 3)) rfl rfl
  refine lv_aload_n hx hb dJx4a65c_grow_d5877_0 rfl (hlc.2.2 _ (k_p l 0) rfl) ?_
  refine lv_aload_n hx hb dJx4a65c_grow_d5877_1 rfl (hlc.2.2 _ (k_p l 0) rfl) ?_
  refine va_get (D := G.1) (ci := 0) (v := .int (nI (k_Z σ l))) (C := RJx4a65c) (T := TJx4a65c) (N := 3) hx hb hts kw_0 hown hKS.1 hP 0 rfl rfl 2 (by decide) (hts _ wd_54) (fun _ h9 => h9) rfl dJx4a65c_grow_d5877_2 ?_
  refine lv_iconst (v := 1) hx hb dJx4a65c_grow_d5877_5 (by decide) ?_
  refine lv_iadd hx hb dJx4a65c_grow_d5877_6 ?_
  rw [nI_1]
  refine k_afterR (rest := []) (a := [Value.ref (A l 0), Value.int (nI (k_Z σ l + 1))].toArray) (Qx := k_Qgrow G σ l A E) va_S.rf (vx_runV (C := RJx4a65c) (b := A l 0) (As := [Value.int (nI (k_Z σ l + 1))]) (rest := []) (nL := 1) ⟨hx, hb, hml, hown, hts⟩ (j_grow1 la hla G σ l ms hl hn hZ hms A E) ⟨k_callB hts kl_Jx4a65c_69.1 rfl rfl (Nat.le_refl _) (by show 8 + (4 + 11) + 120 ≤ 150; omega), hts _ kl_Jx4a65c_69.2.1, hts _ kl_Jx4a65c_69.2.2⟩ ⟨k_Px.blind, hrec, fun U hU hW => ⟨⟨rfl, hKS.call hW hU va_S.rf, by rw [hU]; exact hR, fun v hv => by simp at hv; rcases hv with rfl | rfl <;> first | trivial | exact hn⟩, by rw [hU]; exact hfull⟩⟩ rfl rfl hlc.1 rfl (lv_room (Nat.zero_le _)) dJx4a65c_grow_d5877_7 ⟨Nat.le_refl _, by show 0 + ms ≤ ms; omega⟩) (fun v st t locs1 hst hq hS9 => ?_)
  obtain ⟨E', cap, f, hv, h1, h2, h3⟩ := hq
  cases hv
  refine W.widen (k := 1) (n := ms) (Nat.le_refl _) (by omega) (vx_ret ?_)
  exact W.aret (v := .ref (E' l)) (rt := .array (.object "java/lang/Object")) hx hb hr (Or.inr ⟨_, rfl⟩) (Or.inr ⟨_, rfl⟩) (fun t9 ht hW => ⟨⟨E', cap, f, rfl, by rw [ht]; exact h1, h2, by rw [ht]; exact h3⟩, hS9.F ht⟩) hS9.2.2 dJx4a65c_grow_d5877_10 hlocks
theorem k_ladd_HR {G : k_G} {A : k_A} {E : Nat → Nat} {σ : k_S} {H H1 : Heap} {l j cap : Nat} {f : Nat → Value} (hEA : k_EA G) (h : k_HR G A E σ H) (hB : G.2.2.2.1 < G.2.2.1) (hl : k_isL l = true) (hn : 0 < k_N σ l) (hj : j < k_N σ (l - 10)) (hcap : H[E l]? = some (arrV (G.2.1 5) cap f)) (hlt : k_Z σ l < cap) (hz : H1.size = H.size) (hk : ∀ a : Nat, a < H.size → a ≠ A l 0 → a ≠ E l → H1[a]? = H[a]?) (mc : Int32)
    (hob : t_OB (A l 0) (G.1.1 0) 3 (G.1.2 0) H1 (vp_V [.int mc, .ref (E l), .int (nI (k_Z σ l + 1))]))
    (hc : H1[E l]? = some (arrV (G.2.1 5) cap (updV (fun j => va_rf (if j < k_Z σ l then (k_P σ l 0 j).map (A (l - 10)) else none)) (k_Z σ l) (.ref (A (l - 10) j))))) : k_HR G A E (k_ladd σ l j) H1 := by
  obtain ⟨-, mc0, cap0, -, d3, d4, d5, d6⟩ := h.2.2.2.2.2 l hl hn
  have ecap : cap0 = cap := by
    have := congrArg (fun o : Option Cell => o.map fun x => x.slots.size) (d3.symm.trans hcap)
    simp only [Option.map_some, arrV_size, k_av_size hEA, Option.some.injEq] at this
    exact this
  subst ecap
  have d7 : 0 < cap0 ∧ G.2.2.1 ≤ E l ∧ (∀ l' i', i' < k_N σ l' → A l' i' ≠ E l) ∧ ∀ l', k_isL l' = true → 0 < k_N σ l' → l' ≠ l → E l' ≠ E l := by
    rcases d6 with ⟨q, -⟩ | q
    · omega
    · exact q
  have eP : ∀ k, k_P (k_ladd σ l j) l 0 k = if k = k_Z σ l then some j else k_P σ l 0 k := by
    intro k
    show k_up3 (k_P σ) l 0 (k_Z σ l) (some j) l 0 k = _
    by_cases e : k = k_Z σ l
    · subst e
      rw [k_up3_s, if_pos rfl]
    · rw [k_up3_n (fun q => e q.2.2), if_neg e]
  have eZ : k_Z (k_ladd σ l j) l = k_Z σ l + 1 := if_pos rfl
  refine h.list (E' := E) hB hl hn (by omega) (fun a h1 h2 h3 => hk a h1 h2 (fun q => by have := h3 q; omega)) rfl rfl rfl rfl (fun l' hl' => if_neg hl') (fun l' i' k' ne => k_up3_o ne) (fun k j' hP => ?_) (fun _ _ => rfl) (Or.inl rfl) ⟨mc, cap0, ?_, ?_, ?_, ?_, Or.inr d7⟩
  · rw [eP] at hP
    by_cases e : k = k_Z σ l
    · rw [if_pos e] at hP
      cases hP
      exact hj
    · rw [if_neg e] at hP
      have hkd := (k_isL_kd (k := k) hl).1
      have := h.2.2.2.1 l 0 k j' hn (by rw [hkd]; omega) hP
      rw [hkd, Nat.add_sub_cancel] at this
      exact this
  · rw [eZ]
    exact hob
  · rw [hc, eZ, k_av_n d7.1]
    congr 2
    funext k
    unfold updV
    rw [eP]
    by_cases e : k = k_Z σ l
    · rw [if_pos e, if_pos (by omega), if_pos e]
      rfl
    · rw [if_neg e, if_neg e]
      by_cases e2 : k < k_Z σ l
      · dsimp only
        rw [if_pos e2, if_pos (by omega)]
      · dsimp only
        rw [if_neg e2, if_neg (by omega)]
  · rw [eZ]; omega
  · rw [eZ]; omega
def k_Qadd (G : k_G) (σ : k_S) (l j : Nat) (r : Option Value) (A : k_A) (_ : Nat → Nat) : State → Outcome → State → Prop := fun _ o t => o = .returned r ∧ ∃ E', k_HR G A E' (k_ladd σ l j) t.heap
/-- the end of add: the array has room -/
theorem j_addTail {la : Launch} {G : k_G} {σ : k_S} {l j ms : Nat} {A : k_A} {E : Nat → Nat} {p : Program} {e : Env} {R : Room} {s : State} {m : MethodId} {args : Array Value} {below : List Frame} {meth : Method} {c : Code} {H : Heap} {locs : List Loc} {ls : Array Slot} {L : List (Option k_AV)} {k n cap : Nat} {f : Nat → Value} {Q0 : (Nat → Nat)}
    (hx : p.tables.exec = Jvm.exec) (hb : c.code = cJx4a65c_add_72be8) (hown : s.vm.findClass RJx4a65c = some m.cls) (hts : ∀ w ∈ k_Tb, w.before args s = true) (hKS : k_KS G s) (hlocks : meth.locks = false) (hr : meth.sig.returnType = none) (hl : k_isL l = true) (hn : 0 < k_N σ l) (hZ : k_Z σ l ≤ 200) (hj : j < k_N σ (l - 10)) (hR : k_HR G A E σ H) (hS : va_S (fun q => G.2.2.1 ≤ q) s.heap H locs) (hcap : H[E l]? = some (arrV (G.2.1 5) cap f)) (hlt : k_Z σ l < cap) (hlc : k_has A L ls 4) (h0 : L[0]? = some (some (k_p l 0))) (h1 : L[1]? = some (some (k_p (l - 10) j))) (h2 : L[2]? = some (some (k_r (E l)))) (h3 : L[3]? = some (some (k_i (nI (k_Z σ l))))) (hk : k ≤ 1) (hns : n ≤ ms) :
    W p la e R s m args below meth c H locs k n (vx_MQ below (fun _ st o t => k_Qadd G σ l j none A Q0 st o t ∧ va_F (fun q => G.2.2.1 ≤ q) st t) (fun _ _ _ => False) args s 1 ms (fun q => G.2.2.1 ≤ q)) (F0 m 11 ls []) := by
  have hnc : (nI (k_Z σ l)).toNatClampNeg = k_Z σ l := nI_clamp (by omega)
  have hl2 := (k_isL_kd (k := 0) hl).2
  have hany := k_any hR hKS (u := l - 10) (j := j) (by omega) (by omega) hj
  obtain ⟨cellV, g1, g2, ⟨kC, g3⟩, g4⟩ := hany
  obtain ⟨-, mc0, cap0, d2, d3, d4, -, d6⟩ := hR.2.2.2.2.2 l hl hn
  have ecap : cap0 = cap := by
    have := congrArg (fun o : Option Cell => o.map fun x => x.slots.size) (d3.symm.trans hcap)
    simp only [Option.map_some, arrV_size, k_av_size hKS.ea, Option.some.injEq] at this
    exact this
  subst ecap
  rw [k_av_n (by omega)] at d3
  have d7 : G.2.2.1 ≤ E l ∧ ∀ l' i', i' < k_N σ l' → A l' i' ≠ E l := by
    rcases d6 with ⟨q, -⟩ | ⟨-, q1, q2, -⟩
    · omega
    · exact ⟨q1, q2⟩
  obtain ⟨kA, comp, k1, k2, k3, -⟩ := (hKS.1.2 5 _ rfl).2
  obtain ⟨kE, hkE, -⟩ := Vm.findClass_spec k3
  refine lv_aload_n hx hb dJx4a65c_add_72be8_11 rfl (hlc.2.2 _ _ h2) ?_
  refine lv_iload_n hx hb dJx4a65c_add_72be8_12 rfl (hlc.2.2 _ _ h3) ?_
  refine lv_aload_n hx hb dJx4a65c_add_72be8_13 rfl (hlc.2.2 _ _ h1) ?_
  refine W.aast hx hb d3 (fun q h => by cases h) (fun h => by cases h) k1 k2 rfl hkE ⟨nI_pos (by omega), by show _ < (arrV _ _ _).slots.size; rw [arrV_size, hnc]; exact hlt⟩ g1 (fun q h => by rw [h] at g2; cases g2) g3 (g4 _ k3) rfl rfl dJx4a65c_add_72be8_14 (fun H1 e1 z1 o1 => ?_)
  rw [hnc, arrV_store] at e1
  refine W.eq (g2 := F0 m 15 ls []) rfl ?_
  refine lv_aload_n hx hb dJx4a65c_add_72be8_15 rfl (hlc.2.2 _ _ h0) ?_
  refine lv_iload_n hx hb dJx4a65c_add_72be8_16 rfl (hlc.2.2 _ _ h3) ?_
  refine lv_iconst (v := 1) hx hb dJx4a65c_add_72be8_17 (by decide) ?_
  refine lv_iadd hx hb dJx4a65c_add_72be8_18 ?_
  rw [nI_1]
  have hS1 := hS.put (k := (nI (k_Z σ l)).toNatClampNeg) z1 o1 d7.1
  have hob1 : t_OB (A l 0) (G.1.1 0) 3 (G.1.2 0) H1 (vp_V [.int mc0, .ref (E l), .int (nI (k_Z σ l))]) := d2.kept (o1 _ (d7.2 l 0 hn))
  refine k_putL (ty := .int) (f := 2) (v := .int (nI (k_Z σ l + 1))) hx hb hown hts hKS.1 rfl (by decide) hob1 wd_54 (fun _ h9 => h9) rfl rfl rfl dJx4a65c_add_72be8_19 (fun H3 k3 ho3 z3 o3 => ?_)
  have hne : E l ≠ A l 0 := fun q => d7.2 l 0 hn q.symm
  have hfin : k_HR G A E (k_ladd σ l j) H3 := k_ladd_HR hKS.ea hR hKS.2.2.2.2.2.2.2.2.1 hl hn hj d3 hlt (by omega) (fun a _ q1 q2 => (o3 a q1).trans (o1 a q2)) mc0 ho3 (by rw [o3 _ hne]; exact e1)
  have hSf := hS1.put (k := k3) z3 o3 (hR.2.2.1 l 0 hn).1
  refine W.widen (k := 1) (n := ms) hk hns (vx_ret ?_)
  exact W.vret hx hb hr (fun t9 ht hW => ⟨⟨rfl, E, by rw [ht]; exact hfin⟩, hSf.F ht⟩) hSf.2.2 dJx4a65c_add_72be8_22 hlocks
theorem j_add3 (la : Launch) (hla : la.flags = flags0) (G : k_G) (σ : k_S) (l j ms : Nat) (hl : k_isL l = true) (hn : 0 < k_N σ l) (hZ : k_Z σ l ≤ 200) (hms : k_ncap (k_Z σ l) = ms) (hj : j < k_N σ (l - 10)) : k_CtR la G yJx4a65c_add_72be8 (k_ws yJx4a65c_add_72be8 cJx4a65c_add_72be8 4 none) { frames := 5, cells := 1, slots := ms, locals := 180 } (fun E => [k_p l 0, k_p (l - 10) j, k_r (E l), k_i (nI (k_Z σ l))]) σ (fun _ _ _ => True) (k_Qadd G σ l j none) 1 ms := by
  refine k_bodyR hla (by decide +kernel) (fun E v hv => by simp at hv; rcases hv with rfl | rfl | rfl | rfl <;> rfl) (fun E => Nat.le_of_ble_eq_true rfl) ?_
  intro A E p e s m args below meth c Q ls hW hR hos hfull hlc
  obtain ⟨hx, hb, hml, hown, hts, hKS, hlocks, hr, -, hfl, rfl⟩ := hW
  have hown : s.vm.findClass RJx4a65c = some m.cls := hown
  obtain ⟨-, mc0, cap, d2, d3, d4, d5, d6⟩ := hR.2.2.2.2.2 l hl hn
  obtain ⟨mc1, hP⟩ := k_lob hR hl hn
  have hrec : ∃ cell : Cell, s.heap[A l 0]? = some cell ∧ cell.vm.isStatics = false ∧ s.vm.findClass RJx4a65c = some cell.cls := va_recv hKS.1 hP (ci := 0) (q0 := 0) (q := (RJx4a65c, TJx4a65c, 3)) rfl rfl
  have hcapB : cap < 2 ^ 31 := by omega
  refine lv_iload_n hx hb dJx4a65c_add_72be8_0 rfl (hlc.2.2 _ (k_i (nI (k_Z σ l))) rfl) ?_
  refine lv_aload_n hx hb dJx4a65c_add_72be8_1 rfl (hlc.2.2 _ (k_r (E l)) rfl) ?_
  refine W.alen (n := nI cap) hx hb d3 (k_avT hKS _ _) (by rw [k_av_size hKS.ea] <;> rfl) rfl rfl dJx4a65c_add_72be8_2 ?_
  refine W.eq (g2 := F0 m 3 ls [.int (nI cap), .int (nI (k_Z σ l))]) rfl ?_
  refine lv_icmp_ne (tgt := 11) hx hb dJx4a65c_add_72be8_3 (by decide) (fun hne => ?_) (fun heq => ?_)
  · have hlt : k_Z σ l < cap := Nat.lt_of_le_of_ne d4 (fun q => hne (by rw [q]))
    exact j_addTail (Q0 := E) hx hb hown hts hKS hlocks hr hl hn hZ hj hR va_S.rf (by rw [k_av_n (by omega)] at d3; exact d3) hlt hlc rfl rfl rfl rfl (Nat.zero_le _) (Nat.zero_le _)
  · have hcz : k_Z σ l = cap := (nI_eq (by omega) hcapB).mp heq
    have hfull : k_full G σ l A E s.heap := ⟨_, by rw [hcz]; exact d3⟩
    refine lv_aload_n hx hb dJx4a65c_add_72be8_6 rfl (hlc.2.2 _ (k_p l 0) rfl) ?_
    refine k_afterR (rest := []) (a := [Value.ref (A l 0)].toArray) (Qx := k_Qgrow G σ l A E) va_S.rf (vx_runV (C := RJx4a65c) (b := A l 0) (As := []) (rest := []) (nL := 4) ⟨hx, hb, hml, hown, hts⟩ (j_grow0 la hla G σ l ms hl hn hZ hms A E) ⟨k_callB hts kl_Jx4a65c_129.1 rfl rfl (Nat.le_refl _) (by show 8 + (1 + 11) + 150 ≤ 180; omega), hts _ kl_Jx4a65c_129.2.1, hts _ kl_Jx4a65c_129.2.2⟩ ⟨k_Px.blind, hrec, fun U hU hW => ⟨⟨rfl, hKS.call hW hU va_S.rf, by rw [hU]; exact hR, fun v hv => by simp at hv; rcases hv with rfl; exact hn⟩, by rw [hU]; exact hfull⟩⟩ rfl rfl hlc.1 rfl (lv_room (Nat.zero_le _)) dJx4a65c_add_72be8_7 ⟨Nat.le_refl _, by show 0 + ms ≤ ms; omega⟩) (fun v st t locs1 hst hq hS9 => ?_)
    obtain ⟨E', cap', f', hv, q1, q2, q3⟩ := hq
    cases hv
    refine lv_astore_n (lv' := _) hx hb dJx4a65c_add_72be8_10 rfl hlc.lv (by decide) rfl (fun ls hl9 => ?_)
    have hlc := k_has.st (A := A) (v := k_r (E' l)) hl9
    exact j_addTail (Q0 := E) hx hb hown hts hKS hlocks hr hl hn hZ hj q1 hS9 q3 q2 hlc rfl rfl rfl rfl (Nat.le_refl _) (by omega)
