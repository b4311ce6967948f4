/-- a write of field f of a list's object, from any class that may: that cell alone changes -/
theorem k_putLo {p : Program} {l : Launch} {e : Env} {R : Room} {s : State} {m : MethodId} {args : Array Value} {below : List Frame} {meth : Method} {c : Code} {H : Heap} {locs : List Loc} {cells slots : Nat} {Q : State → Prop} {G : k_G} {own ref : String} {cc : ByteArray} {pc idx a f : Nat} {ls : Array Slot} {rest : List Value} {fs : List Value} {v : Value} {ty : FieldType}
    (hx : p.tables.exec = Jvm.exec) (hb : c.code = cc) (hown : s.vm.findClass own = some m.cls) (hts : ∀ w ∈ k_Tb, w.before args s = true) (hK : va_K G.1 k_cl (k_tys G.2.1) s) (hlen : fs.length = 3) (hf : f < 3) (hob : t_OB a (G.1.1 0) 3 (G.1.2 0) H (vp_V fs)) (hlink : (Cond.fieldLink own idx ref (TJx4a65c f).2.1 (TJx4a65c f).2.2.1) ∈ k_Tb)
    (hsame : ∀ x, s.fieldFound? (TJx4a65c f).1 (TJx4a65c f).2.1 (TJx4a65c f).2.2.1 = some x → s.fieldFound? ref (TJx4a65c f).2.1 (TJx4a65c f).2.2.1 = some x) (hty : tyJx4a65c f = ty) (hn : narrow ty v = v) (hv : fits ty v = true) (hdg : decode cc pc = .ok (.putfield idx, 3))
    (kk : ∀ (H' : Heap) (k : Nat), t_OB a (G.1.1 0) 3 (G.1.2 0) H' (vp_V (fs.set f v)) → H'.size = H.size → (∀ q : Nat, q ≠ a → H'[q]? = H[q]?) → W p l e R s m args below meth c H' (locs ++ [⟨a, k⟩]) cells slots Q (F0 m (pc + 3) ls rest)) : W p l e R s m args below meth c H locs cells slots Q (F0 m pc ls (v :: .ref a :: rest)) := by
  obtain ⟨cell, q1, q2, q3, q4⟩ := hob
  obtain ⟨hSl, hfc, kC, hkC, hkind⟩ := hK.1 0 _ (rfl : k_cl[0]? = some (RJx4a65c, TJx4a65c, 3))
  obtain ⟨cf, kf, fi, fd, hfi, hsl⟩ := hSl f hf
  have hap := va_apart (own := RJx4a65c) hts kw_0 tyJx4a65c tyJx4a65c_ok nmJx4a65c hK (rfl : k_cl[0]? = some (RJx4a65c, TJx4a65c, 3))
  have hst := (u_facts hfc hkC (u_lays hts kw_0 hf) hfi).1
  have hlay := hts _ (kw_0 _ (u_in_lay hf))
  unfold u_lay at hlay
  have hfin : (TJx4a65c f).2.2.2 = false := by
    match f, hf with
    | 0, _ => rfl
    | 1, _ => rfl
    | 2, _ => rfl
  rw [if_neg (by rw [hfin]; decide)] at hlay
  have hd : parseFieldDescriptor (TJx4a65c f).2.2.1 = some ty := by rw [← hty]; exact tyJx4a65c_ok f hf
  have h6 := u_store hfc hkC hkind hlay hfi hd hn hv
  refine W.putK hx hb (f := fd) ⟨hown, hts _ hlink, ⟨_, _, _, hsame _ hfi⟩, hst⟩ (by rw [q2]; exact h6) q1 q3 (by rw [hsl]; exact k2_hasslot (q4 f hf)) rfl rfl hdg fun H' e1 e2 e3 => ?_
  rw [hsl] at e1
  exact kk H' _ (t_OB.to (V := updV (vp_V fs) f v) ⟨_, e1, q2, q3, t_set q4 hap hf v⟩ (fun j _ => vp_updV_set (by omega) v j)) e2 e3
/-- a list's object on its way: not yet a thing of the world -/
def k_Pb (G : k_G) (b : Nat) (fs : List Value) (_ : k_A) (_ : Nat → Nat) (H : Heap) : Prop := t_OB b (G.1.1 0) 3 (G.1.2 0) H (vp_V fs) ∧ G.2.2.1 ≤ b
def k_Qb (G : k_G) (b : Nat) (fs : List Value) (_ : k_A) (_ : Nat → Nat) : State → Outcome → State → Prop := fun st o t => o = .returned none ∧ t.heap.size = st.heap.size ∧ (∀ a : Nat, a ≠ b → t.heap[a]? = st.heap[a]?) ∧ t_OB b (G.1.1 0) 3 (G.1.2 0) t.heap (vp_V fs)
theorem j_nl1 (la : Launch) (hla : la.flags = flags0) (G : k_G) (σ : k_S) (b : Nat) (fs : List Value) : k_CtR la G yJxa1e45_init_da8c8 (k_ws yJxa1e45_init_da8c8 cJxa1e45_init_da8c8 1 none) { frames := 1, cells := 0, slots := 0, locals := 20 } (fun _ => [k_r b]) σ (k_Pb G b fs) (k_Qb G b fs) 0 0 := by
  refine k_bodyR hla (by decide +kernel) (fun E v hv => by simp at hv; rcases hv with rfl; rfl) (fun E => Nat.le_of_ble_eq_true rfl) ?_
  intro A E p e s m args below meth c Q ls hW hR hos hfull hlc
  obtain ⟨hx, hb, hml, hown, hts, hKS, hlocks, hr, -, hfl, rfl⟩ := hW
  have hown : s.vm.findClass RJxa1e45 = some m.cls := hown
  refine lv_aload_n hx hb dJxa1e45_init_da8c8_0 rfl (hlc.2.2 _ (k_r b) rfl) ?_
  refine W.objInit hx hb hown (hts _ wd_50) (hts _ wd_37) (hts _ wd_38) rfl (by rw [hml]; exact hlc.1) rfl dJxa1e45_init_da8c8_1 (Nat.le_refl _) (by show 2 * 0 + 0 + 12 ≤ 20; omega) ?_
  refine vx_ret ?_
  exact W.vret hx hb hr (fun t9 ht hW => ⟨⟨rfl, by rw [ht], fun a _ => by rw [ht], by rw [ht]; exact hfull.1⟩, va_S.rf.F ht⟩) (fun _ h => by cases h) dJxa1e45_init_da8c8_4 hlocks
theorem j_nl2 (la : Launch) (hla : la.flags = flags0) (G : k_G) (σ : k_S) (b : Nat) (v1 v2 v3 : Value) : k_CtR la G yJxc12de_init_da8c8 (k_ws yJxc12de_init_da8c8 cJxc12de_init_da8c8 1 none) { frames := 2, cells := 0, slots := 0, locals := 45 } (fun _ => [k_r b]) σ (k_Pb G b [v1, v2, v3]) (k_Qb G b [.int 0, v2, v3]) 0 0 := by
  refine k_bodyR hla (by decide +kernel) (fun E v hv => by simp at hv; rcases hv with rfl; rfl) (fun E => Nat.le_of_ble_eq_true rfl) ?_
  intro A E p e s m args below meth c Q ls hW hR hos hfull hlc
  obtain ⟨hx, hb, hml, hown, hts, hKS, hlocks, hr, -, hfl, rfl⟩ := hW
  have hown : s.vm.findClass RJxc12de = some m.cls := hown
  refine lv_aload_n hx hb dJxc12de_init_da8c8_0 rfl (hlc.2.2 _ (k_r b) rfl) ?_
  refine k_afterR (rest := []) (a := [Value.ref b].toArray) (Qx := k_Qb G b [v1, v2, v3] A E) va_S.rf (vx_runI (As := []) (b := b) (rest := []) (nL := 1) ⟨hx, hb, hml, hown, hts⟩ (j_nl1 la hla G σ b [v1, v2, v3] A E) ⟨k_callB hts kl_Jxc12de_1.1 rfl rfl (Nat.le_refl _) (by show 8 + (1 + 11) + 20 ≤ 45; omega), kl_Jxc12de_1.2.1, hts _ kl_Jxc12de_1.2.2⟩ ⟨k_Px.blind, fun U hU hW => ⟨⟨rfl, hKS.call hW hU va_S.rf, by rw [hU]; exact hR, fun v hv => by simp at hv; rcases hv with rfl; trivial⟩, by rw [hU]; exact hfull⟩⟩ rfl rfl hlc.1 rfl (lv_room (Nat.zero_le _)) dJxc12de_init_da8c8_1 ⟨Nat.le_refl _, Nat.le_refl _⟩) (fun v st t locs1 hst hq hS9 => ?_)
  obtain ⟨hv, q1, q2, q3⟩ := hq
  cases hv
  refine lv_aload_n hx hb dJxc12de_init_da8c8_4 rfl (hlc.2.2 _ (k_r b) rfl) ?_
  refine lv_iconst (v := 0) hx hb dJxc12de_init_da8c8_5 (by decide) ?_
  refine k_putLo (ty := .int) (f := 0) (v := .int 0) hx hb hown hts hKS.1 rfl (by decide) q3 wd_55 (fun _ h9 => h9) rfl rfl rfl dJxc12de_init_da8c8_6 (fun H1 k1 ho1 z1 o1 => ?_)
  have hSf := hS9.put (k := k1) z1 o1 hfull.2
  refine vx_ret ?_
  exact W.vret hx hb hr (fun t9 ht hW => ⟨⟨rfl, by rw [ht, z1, q1, hst], fun a ha => by rw [ht, o1 a ha, q2 a ha, hst], by rw [ht]; exact ho1⟩, hSf.F ht⟩) hSf.2.2 dJxc12de_init_da8c8_9 hlocks
theorem j_nl3 (la : Launch) (hla : la.flags = flags0) (G : k_G) (σ : k_S) (b : Nat) (v1 v2 v3 : Value) : k_CtR la G yJx4a65c_init_da8c8 (k_ws yJx4a65c_init_da8c8 cJx4a65c_init_da8c8 1 none) { frames := 3, cells := 0, slots := 0, locals := 70 } (fun _ => [k_r b]) σ (k_Pb G b [v1, v2, v3]) (k_Qb G b [.int 0, .ref G.2.2.2.1, v3]) 0 0 := by
  refine k_bodyR hla (by decide +kernel) (fun E v hv => by simp at hv; rcases hv with rfl; rfl) (fun E => Nat.le_of_ble_eq_true rfl) ?_
  intro A E p e s m args below meth c Q ls hW hR hos hfull hlc
  obtain ⟨hx, hb, hml, hown, hts, hKS, hlocks, hr, -, hfl, rfl⟩ := hW
  have hown : s.vm.findClass RJx4a65c = some m.cls := hown
  have hst0 := hKS.2.2.2.2.2.2.1
  refine lv_aload_n hx hb dJx4a65c_init_da8c8_0 rfl (hlc.2.2 _ (k_r b) rfl) ?_
  refine k_afterR (rest := []) (a := [Value.ref b].toArray) (Qx := k_Qb G b [.int 0, v2, v3] A E) va_S.rf (vx_runI (As := []) (b := b) (rest := []) (nL := 1) ⟨hx, hb, hml, hown, hts⟩ (j_nl2 la hla G σ b v1 v2 v3 A E) ⟨k_callB hts kl_Jx4a65c_1.1 rfl rfl (Nat.le_refl _) (by show 8 + (1 + 11) + 45 ≤ 70; omega), kl_Jx4a65c_1.2.1, hts _ kl_Jx4a65c_1.2.2⟩ ⟨k_Px.blind, fun U hU hW => ⟨⟨rfl, hKS.call hW hU va_S.rf, by rw [hU]; exact hR, fun v hv => by simp at hv; rcases hv with rfl; trivial⟩, by rw [hU]; exact hfull⟩⟩ rfl rfl hlc.1 rfl (lv_room (Nat.zero_le _)) dJx4a65c_init_da8c8_1 ⟨Nat.le_refl _, Nat.le_refl _⟩) (fun v st t locs1 hst hq hS9 => ?_)
  obtain ⟨hv, q1, q2, q3⟩ := hq
  cases hv
  refine lv_aload_n hx hb dJx4a65c_init_da8c8_4 rfl (hlc.2.2 _ (k_r b) rfl) ?_
  refine va_gets (A := fun q => G.2.2.1 ≤ q) hx hb hst0 hS9 hown (hts _ wd_51) (fun _ h9 => h9) dJx4a65c_init_da8c8_5 ?_
  refine k_putLo (ty := .array (.object "java/lang/Object")) (f := 1) (v := .ref G.2.2.2.1) hx hb hown hts hKS.1 rfl (by decide) q3 wd_53 (fun _ h9 => h9) rfl rfl rfl dJx4a65c_init_da8c8_8 (fun H1 k1 ho1 z1 o1 => ?_)
  have hSf := hS9.put (k := k1) z1 o1 hfull.2
  refine vx_ret ?_
  exact W.vret hx hb hr (fun t9 ht hW => ⟨⟨rfl, by rw [ht, z1, q1, hst], fun a ha => by rw [ht, o1 a ha, q2 a ha, hst], by rw [ht]; exact ho1⟩, hSf.F ht⟩) hSf.2.2 dJx4a65c_init_da8c8_11 hlocks
