/-- the list's object points to another array -/
theorem k_HR.regrow {G : k_G} {A : k_A} {E : Nat → Nat} {σ : k_S} {H H1 : Heap} {l q cap : Nat} (h : k_HR G A E σ H) (hB : G.2.2.2.1 < G.2.2.1) (hBs : G.2.2.1 ≤ H.size) (hl : k_isL l = true) (hn : 0 < k_N σ l) (hz : H.size ≤ H1.size) (hk : ∀ a : Nat, a < H.size → a ≠ A l 0 → H1[a]? = H[a]?) (hq : H.size ≤ q) (mc : Int32)
    (hob : t_OB (A l 0) (G.1.1 0) 3 (G.1.2 0) H1 (vp_V [.int mc, .ref q, .int (nI (k_Z σ l))])) (hcap : k_Z σ l < cap) (hcap2 : cap ≤ 2 * k_Z σ l + 10)
    (hc : H1[q]? = some (arrV (G.2.1 5) cap (fun j => va_rf (if j < k_Z σ l then (k_P σ l 0 j).map (A (l - 10)) else none)))) : k_HR G A (fun l' => if l' = l then q else E l') σ H1 := by
  have e1 : (fun l' => if l' = l then q else E l') l = q := if_pos rfl
  refine h.list (E' := fun l' => if l' = l then q else E l') hB hl hn hz (fun a h1 h2 _ => hk a h1 h2) rfl rfl rfl rfl (fun _ _ => rfl) (fun _ _ _ _ => rfl) (fun k j hP => ?_) (fun l' hl' => if_neg hl') (Or.inr (by
    first | rw [e1] | rw [if_pos rfl]
    exact hq)) ⟨mc, cap, ?_, ?_, by omega, hcap2, Or.inr ⟨by omega, ?_, fun l' i' h' => ?_, fun l' hl' hn' hne => ?_⟩⟩
  · have hkd := (k_isL_kd (k := k) hl).1
    have := h.2.2.2.1 l 0 k j hn (by rw [hkd]; omega) hP
    rw [hkd, Nat.add_sub_cancel] at this
    exact this
  · first | rw [e1] | rw [if_pos rfl]
    exact hob
  · first | rw [e1] | rw [if_pos rfl]
    rw [k_av_n (by omega)]
    exact hc
  · first | rw [e1] | rw [if_pos rfl]
    omega
  · first | rw [e1] | rw [if_pos rfl]
    have := (h.2.2.1 l' i' h').2
    omega
  · first | rw [e1] | rw [if_pos (rfl : l = l)]
    show (if l' = l then q else E l') ≠ q
    rw [if_neg hne]
    obtain ⟨-, mc', cap', -, d3, -⟩ := h.2.2.2.2.2 l' hl' hn'
    have := (Array.getElem?_eq_some_iff.mp d3).1
    omega
/-- a write of field f of a list's object: that cell alone changes -/
theorem k_putL {p : Program} {l : Launch} {e : Env} {R : Room} {s : State} {m : MethodId} {args : Array Value} {below : List Frame} {meth : Method} {c : Code} {H : Heap} {locs : List Loc} {cells slots : Nat} {Q : State → Prop} {G : k_G} {cc : ByteArray} {pc idx a f : Nat} {ls : Array Slot} {rest : List Value} {fs : List Value} {v : Value} {ty : FieldType}
    (hx : p.tables.exec = Jvm.exec) (hb : c.code = cc) (hown : s.vm.findClass RJx4a65c = some m.cls) (hts : ∀ w ∈ k_Tb, w.before args s = true) (hK : va_K G.1 k_cl (k_tys G.2.1) s) (hlen : fs.length = 3) (hf : f < 3) (hob : t_OB a (G.1.1 0) 3 (G.1.2 0) H (vp_V fs)) (hlink : (Cond.fieldLink RJx4a65c idx RJx4a65c (TJx4a65c f).2.1 (TJx4a65c f).2.2.1) ∈ k_Tb)
    (hsame : ∀ x, s.fieldFound? (TJx4a65c f).1 (TJx4a65c f).2.1 (TJx4a65c f).2.2.1 = some x → s.fieldFound? RJx4a65c (TJx4a65c f).2.1 (TJx4a65c f).2.2.1 = some x) (hty : tyJx4a65c f = ty) (hn : narrow ty v = v) (hv : fits ty v = true) (hdg : decode cc pc = .ok (.putfield idx, 3))
    (kk : ∀ (H' : Heap) (k : Nat), t_OB a (G.1.1 0) 3 (G.1.2 0) H' (vp_V (fs.set f v)) → H'.size = H.size → (∀ q : Nat, q ≠ a → H'[q]? = H[q]?) → W p l e R s m args below meth c H' (locs ++ [⟨a, k⟩]) cells slots Q (F0 m (pc + 3) ls rest)) : W p l e R s m args below meth c H locs cells slots Q (F0 m pc ls (v :: .ref a :: rest)) := by
  obtain ⟨cell, q1, q2, q3, q4⟩ := hob
  obtain ⟨hSl, hfc, kC, hkC, hkind⟩ := hK.1 0 _ (rfl : k_cl[0]? = some (RJx4a65c, TJx4a65c, 3))
  obtain ⟨cf, kf, fi, fd, hfi, hsl⟩ := hSl f hf
  have hap := va_apart (own := RJx4a65c) hts kw_0 tyJx4a65c tyJx4a65c_ok nmJx4a65c hK (rfl : k_cl[0]? = some (RJx4a65c, TJx4a65c, 3))
  have hst := (u_facts hfc hkC (u_lays hts kw_0 hf) hfi).1
  have hlay := hts _ (kw_0 _ (u_in_lay hf))
  unfold u_lay at hlay
  have hfin : (TJx4a65c f).2.2.2 = false := by
    match f, hf with
    | 0, _ => rfl
    | 1, _ => rfl
    | 2, _ => rfl
  rw [if_neg (by rw [hfin]; decide)] at hlay
  have hd : parseFieldDescriptor (TJx4a65c f).2.2.1 = some ty := by rw [← hty]; exact tyJx4a65c_ok f hf
  have h6 := u_store hfc hkC hkind hlay hfi hd hn hv
  refine W.putK hx hb (f := fd) ⟨hown, hts _ hlink, ⟨_, _, _, hsame _ hfi⟩, hst⟩ (by rw [q2]; exact h6) q1 q3 (by rw [hsl]; exact k2_hasslot (q4 f hf)) rfl rfl hdg fun H' e1 e2 e3 => ?_
  rw [hsl] at e1
  exact kk H' _ (t_OB.to (V := updV (vp_V fs) f v) ⟨_, e1, q2, q3, t_set q4 hap hf v⟩ (fun j _ => vp_updV_set (by omega) v j)) e2 e3
/-- the list's object, as the kit has it -/
theorem k_lob {G : k_G} {A : k_A} {E : Nat → Nat} {σ : k_S} {H : Heap} {l : Nat} (h : k_HR G A E σ H) (hl : k_isL l = true) (hn : 0 < k_N σ l) : ∃ mc : Int32, va_P G.1 k_cl [(A l 0, .inr (0, [.int mc, .ref (E l), .int (nI (k_Z σ l))]))] H := by
  obtain ⟨-, mc, cap, d2, -⟩ := h.2.2.2.2.2 l hl hn
  refine ⟨mc, fun k q hk => ?_⟩
  match k, hk with
  | 0, hk => cases hk; exact ⟨_, rfl, d2⟩
theorem k_one {A : Nat → Prop} {a : Nat} {e : va_E} (h : A a) : va_D A [(a, e)] := by
  refine ⟨fun i j p q hi hj _ => ?_, fun k q hk => ?_⟩
  · have h1 : i < 1 := (List.getElem?_eq_some_iff.mp hi).1
    have h2 : j < 1 := (List.getElem?_eq_some_iff.mp hj).1
    omega
  · match k, hk with
    | 0, hk => cases hk; exact h
theorem k_shr (n : Nat) (h : n < 2 ^ 30) : nI n >>> ((1 : Int32) &&& 31) = nI (n / 2) := by
  have k := pk_shrN (n := n) (by omega) ((1 : Int32) &&& 31) 1 (by decide)
  rw [Nat.pow_one] at k
  exact k
def k_ncap (z : Nat) : Nat := if z = 0 then 10 else z + (if 1 < z / 2 then z / 2 else 1)
set_option maxHeartbeats 2000000 in
theorem j_grow1 (la : Launch) (hla : la.flags = flags0) (G : k_G) (σ : k_S) (l ms : Nat) (hl : k_isL l = true) (hn : 0 < k_N σ l) (hZ : k_Z σ l ≤ 200) (hms : k_ncap (k_Z σ l) = ms) : k_CtR la G yJx4a65c_grow_92f84 (k_ws yJx4a65c_grow_92f84 cJx4a65c_grow_92f84 4 (some (.array (.object "java/lang/Object")))) { frames := 3, cells := 1, slots := ms, locals := 120 } (fun _ => [k_p l 0, k_i (nI (k_Z σ l + 1))]) σ (k_full G σ l) (k_Qgrow G σ l) 1 ms := by
  refine k_bodyR hla (by decide +kernel) (fun E v hv => by simp at hv; rcases hv with rfl | rfl <;> rfl) (fun E => Nat.le_of_ble_eq_true rfl) ?_
  intro A E p e s m args below meth c Q ls hW hR hos hfull hlc
  obtain ⟨hx, hb, hml, hown, hts, hKS, hlocks, hr, -, hfl, rfl⟩ := hW
  have hown : s.vm.findClass RJx4a65c = some m.cls := hown
  have hBs : G.2.2.1 ≤ s.heap.size := hKS.2.1
  have hBB := hKS.2.2.2.2.2.2.2.2.1
  have hc0 := k_lcell hKS.ea hR hl hn hfull
  obtain ⟨mc0, hP⟩ := k_lob hR hl hn
  have hA0 := (hR.2.2.1 l 0 hn)
  have hS : va_S (fun q => q = A l 0 ∨ s.heap.size ≤ q) s.heap s.heap [] := va_S.rf
  have hD : va_D (fun q => q = A l 0 ∨ s.heap.size ≤ q) [(A l 0, .inr (0, [.int mc0, .ref (E l), .int (nI (k_Z σ l))]))] := k_one (Or.inl rfl)
  have hwS : ∀ {H1 : Heap} {locs1 : List Loc}, va_S (fun q => q = A l 0 ∨ s.heap.size ≤ q) s.heap H1 locs1 → va_S (fun q => G.2.2.1 ≤ q) s.heap H1 locs1 := fun h9 => ⟨h9.1, fun q h1 h2 => h9.2.1 q h1 (fun z => h2 (z.elim (fun z => by rw [z]; exact hA0.1) (fun z => Nat.le_trans hBs z))), fun q hq => (h9.2.2 q hq).elim (fun z => by rw [z]; exact hA0.1) (fun z => Nat.le_trans hBs z)⟩
  refine lv_aload_n hx hb dJx4a65c_grow_92f84_0 rfl (hlc.2.2 _ (k_p l 0) rfl) ?_
  refine va_get (D := G.1) (ci := 0) (v := .ref (E l)) (C := RJx4a65c) (T := TJx4a65c) (N := 3) hx hb hts kw_0 hown hKS.1 hP 0 rfl rfl 1 (by decide) (hts _ wd_53) (fun _ h9 => h9) rfl dJx4a65c_grow_92f84_1 ?_
  refine W.alen (n := nI (k_Z σ l)) hx hb hc0 (k_avT hKS _ _) (by rw [k_av_size hKS.ea] <;> rfl) rfl rfl dJx4a65c_grow_92f84_4 ?_
  refine W.eq (g2 := F0 m 5 ls [.int (nI (k_Z σ l))]) rfl ?_
  refine lv_istore_n (lv' := _) hx hb dJx4a65c_grow_92f84_5 rfl hlc.lv (by decide) rfl (fun ls hl9 => ?_)
  have hlc := k_has.st (A := A) (v := k_i (nI (k_Z σ l))) hl9
  refine lv_iload_n hx hb dJx4a65c_grow_92f84_6 rfl (hlc.2.2 _ (k_i (nI (k_Z σ l))) rfl) ?_
  refine lv_if_gt (tgt := 20) hx hb dJx4a65c_grow_92f84_7 (by decide) (fun hpos => ?_) (fun hpos => ?_)
  · have hz0 : 0 < k_Z σ l := by
      rcases Nat.eq_zero_or_pos (k_Z σ l) with z | z
      · rw [z] at hpos
        exact absurd hpos (by decide)
      · exact z
    have hcapE : k_Z σ l + (if 1 < k_Z σ l / 2 then k_Z σ l / 2 else 1) = ms := by
      rw [← hms]
      unfold k_ncap
      rw [if_neg (show ¬ k_Z σ l = 0 by omega)]
    have hmsle : ms ≤ 2 * k_Z σ l + 1 := by
      rw [← hcapE]
      split <;> omega
    have hmsgt : k_Z σ l < ms := by
      rw [← hcapE]
      split <;> omega
    refine lv_iload_n hx hb dJx4a65c_grow_92f84_20 rfl (hlc.2.2 _ (k_i (nI (k_Z σ l))) rfl) ?_
    refine lv_iload_n hx hb dJx4a65c_grow_92f84_21 rfl (hlc.2.2 _ (k_i (nI (k_Z σ l + 1))) rfl) ?_
    refine lv_iload_n hx hb dJx4a65c_grow_92f84_22 rfl (hlc.2.2 _ (k_i (nI (k_Z σ l))) rfl) ?_
    refine lv_isub hx hb dJx4a65c_grow_92f84_23 ?_
    refine lv_iload_n hx hb dJx4a65c_grow_92f84_24 rfl (hlc.2.2 _ (k_i (nI (k_Z σ l))) rfl) ?_
    refine lv_iconst (v := 1) hx hb dJx4a65c_grow_92f84_25 (by decide) ?_
    refine lv_ishr hx hb dJx4a65c_grow_92f84_26 ?_
    rw [k_shr _ (by omega), pk_sub (a := k_Z σ l + 1) (b := k_Z σ l) (by omega), Nat.add_sub_cancel_left]
    have hzz : nI (k_Z σ l) + (if nI 1 < nI (k_Z σ l / 2) then nI (k_Z σ l / 2) else nI 1) = nI ms := by
      rw [← hcapE]
      by_cases c1 : 1 < k_Z σ l / 2
      · rw [if_pos (nI_lt c1 (by omega)), if_pos c1, nI_add]
      · rw [if_neg (nI_nlt (by omega) (by decide)), if_neg c1, nI_add]
    refine k_afterR (rest := []) (a := [Value.int (nI (k_Z σ l)), Value.int (nI 1), Value.int (nI (k_Z σ l / 2))].toArray) (Qx := fun st o t => o = .returned (some (.int (nI ms))) ∧ t.heap = st.heap) va_S.rf (vx_runS (As := [Value.int (nI (k_Z σ l)), Value.int (nI 1), Value.int (nI (k_Z σ l / 2))]) (rest := []) (nL := 4) ⟨hx, hb, hml, hown, hts⟩ (j_newLen la hla G σ (nI (k_Z σ l)) (nI 1) (nI (k_Z σ l / 2)) (nI ms) hzz (nI_nle (by omega) (by omega)) (nI_nlt (a := 2147483639) (b := ms) (by omega) (by decide)) A E) ⟨k_callB hts kl_Jx4a65c_73.1 rfl rfl (by show 1 + 1 ≤ 3; omega) (by show 8 + (4 + 11) + 22 ≤ 120; omega), hts _ kl_Jx4a65c_73.2⟩ ⟨k_Px.blind (Px := fun _ _ _ => True), fun U hU hW => ⟨⟨rfl, hKS.call hW hU va_S.rf, by rw [hU]; exact hR, fun v hv => by simp at hv; rcases hv with rfl | rfl | rfl <;> trivial⟩, trivial⟩⟩ rfl rfl hlc.1 rfl (lv_room (Nat.zero_le _)) dJx4a65c_grow_92f84_27 ⟨Nat.zero_le _, Nat.zero_le _⟩) (fun v st t locs1 hst hq hS9 => ?_)
    obtain ⟨hv, hth⟩ := hq
    cases hv
    rw [hth, hst] at hS9 ⊢
    refine lv_istore_n (lv' := _) hx hb dJx4a65c_grow_92f84_30 rfl hlc.lv (by decide) rfl (fun ls hl9 => ?_)
    have hlc := k_has.st (A := A) (v := k_i (nI ms)) hl9
    refine lv_aload_n hx hb dJx4a65c_grow_92f84_31 rfl (hlc.2.2 _ (k_p l 0) rfl) ?_
    refine lv_aload_n hx hb dJx4a65c_grow_92f84_32 rfl (hlc.2.2 _ (k_p l 0) rfl) ?_
    refine va_get (D := G.1) (ci := 0) (v := .ref (E l)) (C := RJx4a65c) (T := TJx4a65c) (N := 3) hx hb hts kw_0 hown hKS.1 hP 0 rfl rfl 1 (by decide) (hts _ wd_53) (fun _ h9 => h9) rfl dJx4a65c_grow_92f84_33 ?_
    refine lv_iload_n hx hb dJx4a65c_grow_92f84_36 rfl (hlc.2.2 _ (k_i (nI ms)) rfl) ?_
    refine k_afterR (rest := [.ref (A l 0)]) (a := [Value.ref (E l), Value.int (nI ms)].toArray) (Qx := k_Qcopy G σ l ms A E) hS9 (vx_runS (As := [Value.ref (E l), Value.int (nI ms)]) (rest := [.ref (A l 0)]) (nL := 4) ⟨hx, hb, hml, hown, hts⟩ (j_copy2 la hla G σ l ms hl hn hz0 (by omega) (by omega) A E) ⟨k_callB hts kl_Jx4a65c_66.1 rfl rfl (by show 2 + 1 ≤ 3; omega) (by show 8 + (2 + 11) + 80 ≤ 120; omega), hts _ kl_Jx4a65c_66.2⟩ ⟨k_Px.blind, fun U hU hW => ⟨⟨rfl, hKS.call hW hU hS9, by rw [hU]; exact hR, fun v hv => by simp at hv; rcases hv with rfl | rfl <;> trivial⟩, by rw [hU]; exact hfull⟩⟩ rfl rfl hlc.1 rfl (lv_room (by show 1 ≤ 8; omega)) dJx4a65c_grow_92f84_37 ⟨Nat.le_refl _, by show 0 + 0 + ms ≤ ms; omega⟩) (fun v st2 t2 locs2 hst2 hq2 hS10 => ?_)
    obtain ⟨q, hv, q1, q2, q3⟩ := hq2
    cases hv
    rw [hst2] at q1 q2
    refine lv_dup_x1 hx hb dJx4a65c_grow_92f84_40 rfl rfl ?_
    have hq9 : q < t2.heap.size := (Array.getElem?_eq_some_iff.mp q3).1
    have hob0 : t_OB (A l 0) (G.1.1 0) 3 (G.1.2 0) t2.heap (vp_V [.int mc0, .ref (E l), .int (nI (k_Z σ l))]) := by
      obtain ⟨r3, hr3, ho3⟩ := hP 0 _ rfl
      cases hr3
      exact ho3.kept (q2 _ hA0.2)
    refine k_putL (ty := .array (.object "java/lang/Object")) (f := 1) (v := .ref q) hx hb hown hts hKS.1 rfl (by decide) hob0 wd_53 (fun _ h9 => h9) rfl rfl rfl dJx4a65c_grow_92f84_41 (fun H3 k3 ho3 z3 o3 => ?_)
    have hn3 : H3[q]? = some (arrV (G.2.1 5) ms (fun j => va_rf (if j < k_Z σ l then (k_P σ l 0 j).map (A (l - 10)) else none))) := by
      rw [o3 _ (by omega)]
      exact q3
    have hfin : k_HR G A (fun l' => if l' = l then q else E l') σ H3 := hR.regrow hBB hBs hl hn (by omega) (fun a h1 h2 => (o3 a h2).trans (q2 a h1)) q1 mc0 ho3 hmsgt (by omega) hn3
    have hSf : va_S (fun q => G.2.2.1 ≤ q) s.heap H3 (locs2 ++ [⟨A l 0, k3⟩]) := hS10.put z3 o3 hA0.1
    refine W.widen (k := 1) (n := ms) (Nat.le_refl _) (by omega) (vx_ret ?_)
    refine W.aret (v := .ref q) (rt := .array (.object "java/lang/Object")) hx hb hr (Or.inr ⟨_, rfl⟩) (Or.inr ⟨_, rfl⟩) (fun t9 ht hW => ⟨⟨fun l' => if l' = l then q else E l', ms, (fun j => va_rf (if j < k_Z σ l then (k_P σ l 0 j).map (A (l - 10)) else none)), ?_, by rw [ht]; exact hfin, hmsgt, ?_⟩, hSf.F ht⟩) hSf.2.2 dJx4a65c_grow_92f84_44 hlocks
    · show _ = Outcome.returned (some (Value.ref (if l = l then q else E l)))
      rw [if_pos rfl]
    · show t9.heap[if l = l then q else E l]? = _
      rw [if_pos rfl, ht]
      exact hn3
  · have hz0 : k_Z σ l = 0 := by
      rcases Nat.eq_zero_or_pos (k_Z σ l) with z | z
      · exact z
      · exact absurd (by rw [← nI_0]; exact nI_lt z (by omega)) hpos
    have hms10 : ms = 10 := by
      rw [← hms]
      unfold k_ncap
      rw [if_pos hz0]
    subst hms10
    have hEe : E l = G.2.2.2.1 := by
      obtain ⟨-, mc, cap, -, d3, -, -, d6⟩ := hR.2.2.2.2.2 l hl hn
      have e := d3.symm.trans hc0
      have e2 : cap = k_Z σ l := by
        have := congrArg (fun o : Option Cell => o.map fun x => x.slots.size) e
        simp only [Option.map_some, k_av_size hKS.ea, Option.some.injEq] at this
        exact this
      rcases d6 with ⟨-, q⟩ | ⟨q, -⟩
      · exact q
      · omega
    have hst := hKS.2.2.2.2.2.2.1
    refine lv_aload_n hx hb dJx4a65c_grow_92f84_10 rfl (hlc.2.2 _ (k_p l 0) rfl) ?_
    refine va_get (D := G.1) (ci := 0) (v := .ref (E l)) (C := RJx4a65c) (T := TJx4a65c) (N := 3) hx hb hts kw_0 hown hKS.1 hP 0 rfl rfl 1 (by decide) (hts _ wd_53) (fun _ h9 => h9) rfl dJx4a65c_grow_92f84_11 ?_
    refine va_gets (A := fun q => G.2.2.1 ≤ q) hx hb hst va_S.rf hown (hts _ wd_51) (fun _ h9 => h9) dJx4a65c_grow_92f84_14 ?_
    refine lv_acmp_eq (rx := some (E l)) (ry := some G.2.2.2.1) (tgt := 45) hx hb dJx4a65c_grow_92f84_17 (by decide) (fun _ => ?_) (fun q => absurd (by rw [hEe]) q)
    refine lv_aload_n hx hb dJx4a65c_grow_92f84_45 rfl (hlc.2.2 _ (k_p l 0) rfl) ?_
    refine lv_bipush (v := 10) hx hb dJx4a65c_grow_92f84_46 (by decide) ?_
    refine lv_iload_n hx hb dJx4a65c_grow_92f84_48 rfl (hlc.2.2 _ (k_i (nI (k_Z σ l + 1))) rfl) ?_
    refine va_mmax hx hb (by rw [hml]; exact hlc.1.symm) hown (hts _ wd_417) (hts _ wd_377) (hts _ wd_14) (hts _ wd_378) (by show 1 ≤ 3; omega) (by show 1 + 13 ≤ 120; omega) (Nat.zero_le _) (Nat.zero_le _) dJx4a65c_grow_92f84_49 ?_
    rw [hz0]
    rw [if_neg (show ¬ (10 : Int32) < nI (0 + 1) by decide)]
    have hnc : (10 : Int32).toNatClampNeg = 10 := by decide
    have hO := hKS.2.2.2.2.2.2.2.2.2.2.1
    refine W.anew hx hb hown (hts _ wd_418) (va_AO.use hO) rfl dJx4a65c_grow_92f84_52 rfl (by decide) (by rw [hnc]; omega) (Nat.le_refl _) (by rw [hnc]; exact Nat.le_refl _) (fun cA kA comp f1 f2 f3 f4 => ?_)
    have ec : cA = G.2.1 5 := Option.some.inj (f1.symm.trans ((hKS.1.2 5 _ rfl).2).choose_spec.choose_spec.2.2.2)
    subst ec
    rw [hnc]
    generalize hH1 : s.heap.push ({ cls := G.2.1 5, slots := Array.replicate 10 .null, vm := .none } : Cell) = H1
    have z1 : H1.size = s.heap.size + 1 := by rw [← hH1]; simp
    have o1 : ∀ q : Nat, q < s.heap.size → H1[q]? = s.heap[q]? := fun q hq => by
      rw [← hH1, Array.getElem?_push, if_neg (Nat.ne_of_lt hq)]
    have e1 : H1[s.heap.size]? = some (arrV (G.2.1 5) 10 (fun _ => .null)) := by
      rw [← hH1, ← arrV_new]
      simp
    refine W.eq (g2 := F0 m 55 ls [.ref s.heap.size, .ref (A l 0)]) rfl ?_
    refine lv_dup_x1 hx hb dJx4a65c_grow_92f84_55 rfl rfl ?_
    have hnew : H1[s.heap.size]? = some (arrV (G.2.1 5) 10 (fun j => va_rf (if j < k_Z σ l then (k_P σ l 0 j).map (A (l - 10)) else none))) := by
      rw [e1]
      congr 2
      funext j
      rw [if_neg (by omega)]
      rfl
    have hSn : va_S (fun q => G.2.2.1 ≤ q) s.heap H1 [] := ⟨by omega, fun a h1 _ => o1 a h1, fun _ h => by cases h⟩
    have hob0 : t_OB (A l 0) (G.1.1 0) 3 (G.1.2 0) H1 (vp_V [.int mc0, .ref (E l), .int (nI (k_Z σ l))]) := by
      obtain ⟨r3, hr3, ho3⟩ := hP 0 _ rfl
      cases hr3
      exact ho3.kept (o1 _ hA0.2)
    refine k_putL (ty := .array (.object "java/lang/Object")) (f := 1) (v := .ref s.heap.size) hx hb hown hts hKS.1 rfl (by decide) hob0 wd_53 (fun _ h9 => h9) rfl rfl rfl dJx4a65c_grow_92f84_56 (fun H3 k3 ho3 z3 o3 => ?_)
    have hn3 : H3[s.heap.size]? = some (arrV (G.2.1 5) 10 (fun j => va_rf (if j < k_Z σ l then (k_P σ l 0 j).map (A (l - 10)) else none))) := by
      rw [o3 _ (by omega)]
      exact hnew
    have hfin : k_HR G A (fun l' => if l' = l then s.heap.size else E l') σ H3 := hR.regrow hBB hBs hl hn (by omega) (fun a h1 h2 => (o3 a h2).trans (o1 a h1)) (Nat.le_refl _) mc0 ho3 (by omega) (by omega) hn3
    have hSf : va_S (fun q => G.2.2.1 ≤ q) s.heap H3 ([] ++ [⟨A l 0, k3⟩]) := hSn.put z3 o3 hA0.1
    refine W.widen (k := 1) (n := 10) (Nat.le_refl _) (by omega) (vx_ret ?_)
    refine W.aret (v := .ref s.heap.size) (rt := .array (.object "java/lang/Object")) hx hb hr (Or.inr ⟨_, rfl⟩) (Or.inr ⟨_, rfl⟩) (fun t9 ht hW => ⟨⟨fun l' => if l' = l then s.heap.size else E l', 10, (fun j => va_rf (if j < k_Z σ l then (k_P σ l 0 j).map (A (l - 10)) else none)), ?_, by rw [ht]; exact hfin, (by omega), ?_⟩, hSf.F ht⟩) hSf.2.2 dJx4a65c_grow_92f84_59 hlocks
    · show _ = Outcome.returned (some (Value.ref (if l = l then s.heap.size else E l)))
      rw [if_pos rfl]
    · show t9.heap[if l = l then s.heap.size else E l]? = _
      rw [if_pos rfl, ht]
      exact hn3
