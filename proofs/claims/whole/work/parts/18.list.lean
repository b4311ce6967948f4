/-! ===== JDK: lists ===== -/
theorem k_isL_kd {l k : Nat} (h : k_isL l = true) : k_kd l k = l - 10 + 3 ∧ 12 ≤ l ∧ l ≤ 17 := by
  simp only [k_isL, Bool.and_eq_true, Nat.ble_eq] at h
  refine ⟨?_, h⟩
  have : l = 12 ∨ l = 13 ∨ l = 14 ∨ l = 15 ∨ l = 16 ∨ l = 17 := by omega
  rcases this with rfl | rfl | rfl | rfl | rfl | rfl <;> rfl
/-- size of a list -/
theorem r_lsize {X : k_X} {own : String} {cc : ByteArray} {nL : Nat} (h : k_Ok X own cc nL) {σ : k_S} {k n pc : Nat} {L : List (Option k_AV)} {st : List k_AV} {l idx : Nat} (hl : k_isL l = true) (hlink : Cond.fieldLink own idx (TJx4a65c 2).1 (TJx4a65c 2).2.1 (TJx4a65c 2).2.2.1 ∈ k_Tb) (d : decode cc pc = .ok (.getfield idx, 3)) (kk : k_W X σ k n (pc + 3) L (k_i (nI (k_Z σ l)) :: st)) : k_W X σ k n pc L (k_p l 0 :: st) := by
  obtain ⟨p, la, e, R, s, m, args, below, meth, c, Q, G, A0, σ0⟩ := X
  intro A E H locs ls hR hE hok hos hS hlc
  obtain ⟨hx, hb, -, hown, hts, hKS, -, -⟩ := h
  have hi : 0 < k_N σ l := hos.head
  obtain ⟨-, mc, cap, ⟨cell, q1, q2, q3, q4⟩, -⟩ := hR.2.2.2.2.2 l hl hi
  obtain ⟨hSl, hfc, kC, hkC, hkind⟩ := hKS.1.1 0 _ (rfl : k_cl[0]? = some (RJx4a65c, TJx4a65c, 3))
  obtain ⟨cf, kf, fi, fd, hfi, hsl⟩ := hSl 2 (by decide)
  refine W.getf hx hb hown (hts _ hlink) hfi (u_facts hfc hkC (u_lays hts kw_0 (by decide)) hfi).1 q1 (by rw [q3]; exact fun h => by cases h) (v := .int (nI (k_Z σ l))) ?_ rfl rfl d (kk A E H locs ls hR hE hok (hos.tail.cons trivial) hS hlc)
  rw [hsl, q4 2 (by decide)]
  rfl
/-- elementData[i] -/
theorem r_lelem {X : k_X} {own : String} {cc : ByteArray} {nL : Nat} (h : k_Ok X own cc nL) {σ : k_S} {k n pc : Nat} {L : List (Option k_AV)} {st : List k_AV} {l idx t j : Nat} {z : Fin 4} (hl : k_isL l = true) (hlink : Cond.fieldLink own idx (TJx4a65c 1).1 (TJx4a65c 1).2.1 (TJx4a65c 1).2.2.1 ∈ k_Tb) (d : decode cc pc = .ok (.getfield idx, 3)) (d3 : decode cc (pc + 3) = .ok (.iload_n z, 1)) (d4 : decode cc (pc + 3 + 1) = .ok (.aaload, 1)) (hL : L[(z : Nat)]? = some (some (k_i (nI t)))) (ht : t < k_Z σ l) (ht2 : t < 2 ^ 30) (hP : k_P σ l 0 t = some j) (kk : k_W X σ k n (pc + 3 + 1 + 1) L (k_p (l - 10) j :: st)) : k_W X σ k n pc L (k_p l 0 :: st) := by
  obtain ⟨p, la, e, R, s, m, args, below, meth, c, Q, G, A0, σ0⟩ := X
  intro A E H locs ls hR hE hok hos hS hlc
  obtain ⟨hx, hb, -, hown, hts, hKS, -, -⟩ := h
  have hi : 0 < k_N σ l := hos.head
  obtain ⟨-, mc, cap, ⟨cell, q1, q2, q3, q4⟩, d9, d10, d11, d12⟩ := hR.2.2.2.2.2 l hl hi
  obtain ⟨hSl, hfc, kC, hkC, hkind⟩ := hKS.1.1 0 _ (rfl : k_cl[0]? = some (RJx4a65c, TJx4a65c, 3))
  obtain ⟨cf, kf, fi, fd, hfi, hsl⟩ := hSl 1 (by decide)
  refine W.getf hx hb hown (hts _ hlink) hfi (u_facts hfc hkC (u_lays hts kw_0 (by decide)) hfi).1 q1 (by rw [q3]; exact fun h => by cases h) (v := .ref (E l)) (by rw [hsl, q4 1 (by decide)]; rfl) rfl rfl d ?_
  refine lv_iload_n hx hb d3 rfl (hlc.2.2 _ _ hL) ?_
  have hnc : (nI t).toNatClampNeg = t := nI_clamp (by omega)
  rw [k_av_n (by omega)] at d9
  refine W.aald (v := .ref (A (l - 10) j)) (ty := .object "java/lang/Object") hx hb d9 (k_arrT hKS.1 (t := 5) rfl _ _) rfl (fun q => by cases q) (by show ¬ (_ < 0 ∨ (arrV _ _ _).slots.size ≤ _); rw [arrV_size, hnc]; exact fun q => q.elim (nI_pos (by omega)) (by omega)) (by
    show (arrV _ _ _).slots[_]? = _
    rw [hnc, arrV_read _ _ (show t < cap by omega), if_pos ht, hP]
    rfl) rfl rfl d4 (kk A E H locs ls hR hE hok (hos.tail.cons ?_) hS hlc)
  have hkd := (k_isL_kd (k := t) hl).1
  have := hR.2.2.2.1 l 0 t j hi (by rw [hkd]; omega) hP
  rw [hkd, Nat.add_sub_cancel] at this
  exact this
/-- a call with a list as receiver -/
theorem r_callL {X : k_X} {own : String} {cc : ByteArray} {nL : Nat} (h : k_Ok X own cc nL) {la : Launch} {G : k_G} {σ0 : k_S} {rm0 : Room} {nm : String} (hMe : k_Me X la G σ0 rm0 nm) {σ : k_S} {k n pc : Nat} {L : List (Option k_AV)} {idx np maxL mc ms l : Nat} {y : MethodName} {cy : ByteArray} {ret : Option FieldType} {rm : Room} {oc : k_Oc} {rest as st : List k_AV}
    (hC : k_Ct la G y (k_ws y cy maxL ret) rm (k_p l 0 :: as) σ oc mc ms) (hw : k_ClV own idx y cy maxL ret np) (d : decode cc pc = .ok (.invokevirtual idx, 3)) (hst : st = as.reverse ++ k_p l 0 :: rest) (hn : as.length = np) (hl : k_isL l = true) (hcl : y.cls = RJx4a65c)
    (hr : rm.cells = mc ∧ rm.slots = ms ∧ rm.frames + 1 ≤ rm0.frames ∧ 8 + (maxL + 11) + rm.locals ≤ rm0.locals ∧ k + mc ≤ rm0.cells ∧ n + ms ≤ rm0.slots ∧ rest.length ≤ 4)
    (kx : ∀ E : String, oc = .inr E → k_T X σ (k + mc) (n + ms) pc L E) (kk : ∀ (r : Option k_AV) (σ' : k_S), oc = .inl (r, σ') → k_W X σ' (k + mc) (n + ms) (pc + 3) L (r.toList ++ rest)) : k_W X σ k n pc L st := by
  obtain ⟨p, la', e, R, s, m, args, below, meth, c, Q, G', A0, σ0'⟩ := X
  obtain ⟨rfl, rfl, rfl, rfl, -⟩ := hMe
  intro A E H locs ls hR hE hok hos hS hlc
  obtain ⟨hx, hb, hml, hown, hts, hKS, hlocks, hfl⟩ := h
  obtain ⟨r1, r2, r3, r4, r5, r6, r7⟩ := hr
  have hos2 : k_oks σ (as.reverse ++ k_p l 0 :: rest) := hst ▸ hos
  have hosa : k_oks σ (k_p l 0 :: as) := k_oks.cons (hos2 _ (by simp)) (fun v hv => hos2 v (by simp [hv]))
  have hosr : k_oks σ rest := fun v hv => hos2 v (by simp [hv])
  have hi : 0 < k_N σ l := hosa.head
  obtain ⟨-, mc', cap, ⟨cell, q1, q2, q3, q4⟩, -⟩ := hR.2.2.2.2.2 l hl hi
  refine k_after hR hE hok hosr hS hlc (vx_runV (As := as.map (k_c A)) (rest := rest.map (k_c A)) (b := A l 0) (g := F0 m pc ls (st.map (k_c A))) (C := y.cls) (nL := nL) ⟨hx, hb, hml, hown, hts⟩ (hC A E) ⟨k_callB hts hw.1 r1 r2 r3 r4, hts _ hw.2.1, hts _ hw.2.2⟩
      ⟨k_Pc.blind, ⟨cell, q1, by rw [q3]; rfl, by rw [q2, hcl]; exact (hKS.1.1 0 _ (rfl : k_cl[0]? = some (RJx4a65c, TJx4a65c, 3))).2.1⟩, fun U hU hW => ⟨rfl, hKS.call hW hU hS, by rw [hU]; exact hR, hosa⟩⟩
      rfl (by rw [List.length_map]; exact hn) (by rw [← hml]; exact hlc.1) (k_split hst) (lv_room (Nat.le_trans (k_sum rest) (by omega))) d ⟨r5, r6⟩) kx kk
theorem j_size (la : Launch) (hla : la.flags = flags0) (G : k_G) (σ : k_S) (l : Nat) (hl : k_isL l = true) : k_Ct la G yJx4a65c_size_8abf5 (k_ws yJx4a65c_size_8abf5 cJx4a65c_size_8abf5 1 (some .int)) { frames := 0, cells := 0, slots := 0, locals := 0 } [k_p l 0] σ (.inl (some (k_i (nI (k_Z σ l))), σ)) 0 0 := by
  refine k_body hla (by decide +kernel) (fun v hv => by rcases List.mem_singleton.mp hv with rfl; rfl) (Nat.le_of_ble_eq_true rfl) (fun X h hEn hMe => ?_)
  refine r_aload_n h dJx4a65c_size_8abf5_0 rfl ?_
  refine r_lsize h hl wd_54 dJx4a65c_size_8abf5_1 ?_
  exact r_ireturn h hEn dJx4a65c_size_8abf5_4 rfl rfl rfl (Nat.le_refl _) (Nat.le_refl _)
theorem j_pre (la : Launch) (hla : la.flags = flags0) (G : k_G) (σ : k_S) (i n : Int32) (h0 : ¬ i < 0) (h1 : i < n) : k_Ct la G yJ3_checkIndex_8e157 (k_ws yJ3_checkIndex_8e157 cJ3_checkIndex_8e157 3 (some .int)) { frames := 0, cells := 0, slots := 0, locals := 0 } [k_i i, k_i n, k_n] σ (.inl (some (k_i i), σ)) 0 0 := by
  refine k_body hla (by decide +kernel) (fun v hv => by simp at hv; rcases hv with rfl | rfl | rfl <;> rfl) (Nat.le_of_ble_eq_true rfl) (fun X h hEn hMe => ?_)
  refine r_iload_n h dJ3_checkIndex_8e157_0 rfl ?_
  refine r_if_lt (tgt := 9) h dJ3_checkIndex_8e157_1 (by decide) (fun q => absurd q h0) (fun _ => ?_)
  refine r_iload_n h dJ3_checkIndex_8e157_4 rfl ?_
  refine r_iload_n h dJ3_checkIndex_8e157_5 rfl ?_
  refine r_icmp_lt (tgt := 16) h dJ3_checkIndex_8e157_6 (by decide) (fun _ => ?_) (fun q => absurd h1 q)
  refine r_iload_n h dJ3_checkIndex_8e157_16 rfl ?_
  exact r_ireturn h hEn dJ3_checkIndex_8e157_17 rfl rfl rfl (Nat.le_refl _) (Nat.le_refl _)
theorem j_chk (la : Launch) (hla : la.flags = flags0) (G : k_G) (σ : k_S) (i n : Int32) (h0 : ¬ i < 0) (h1 : i < n) : k_Ct la G yJ15_checkIndex_7cf53 (k_ws yJ15_checkIndex_7cf53 cJ15_checkIndex_7cf53 2 (some .int)) { frames := 1, cells := 0, slots := 0, locals := 22 } [k_i i, k_i n] σ (.inl (some (k_i i), σ)) 0 0 := by
  refine k_body hla (by decide +kernel) (fun v hv => by simp at hv; rcases hv with rfl | rfl <;> rfl) (Nat.le_of_ble_eq_true rfl) (fun X h hEn hMe => ?_)
  refine r_iload_n h dJ15_checkIndex_7cf53_0 rfl ?_
  refine r_iload_n h dJ15_checkIndex_7cf53_1 rfl ?_
  refine r_null h dJ15_checkIndex_7cf53_2 ?_
  refine r_callS h hMe (rest := []) (as := [k_i i, k_i n, k_n]) (j_pre la hla G σ i n h0 h1) kl_J15_105 dJ15_checkIndex_7cf53_3 rfl rfl (by decide) (fun E q => by cases q) (fun r σ' q => ?_)
  cases q
  exact r_ireturn h hEn dJ15_checkIndex_7cf53_6 rfl rfl rfl (Nat.le_refl _) (Nat.le_refl _)
theorem j_elem (la : Launch) (hla : la.flags = flags0) (G : k_G) (σ : k_S) (l t j : Nat) (hl : k_isL l = true) (ht : t < k_Z σ l) (ht2 : t < 2 ^ 30) (hP : k_P σ l 0 t = some j) : k_Ct la G yJx4a65c_elementData_915e3 (k_ws yJx4a65c_elementData_915e3 cJx4a65c_elementData_915e3 2 (some (.object "java/lang/Object"))) { frames := 0, cells := 0, slots := 0, locals := 0 } [k_p l 0, k_i (nI t)] σ (.inl (some (k_p (l - 10) j), σ)) 0 0 := by
  refine k_body hla (by decide +kernel) (fun v hv => by simp at hv; rcases hv with rfl | rfl <;> rfl) (Nat.le_of_ble_eq_true rfl) (fun X h hEn hMe => ?_)
  refine r_aload_n h dJx4a65c_elementData_915e3_0 rfl ?_
  refine r_lelem h hl wd_53 dJx4a65c_elementData_915e3_1 dJx4a65c_elementData_915e3_4 dJx4a65c_elementData_915e3_5 (t := t) rfl ht ht2 hP ?_
  exact r_areturn h hEn dJx4a65c_elementData_915e3_6 rfl rfl (Nat.le_refl _) (Nat.le_refl _)
theorem j_get (la : Launch) (hla : la.flags = flags0) (G : k_G) (σ : k_S) (l t j : Nat) (hl : k_isL l = true) (ht : t < k_Z σ l) (hz : k_Z σ l < 2 ^ 30) (hP : k_P σ l 0 t = some j) : k_Ct la G yJx4a65c_get_915e3 (k_ws yJx4a65c_get_915e3 cJx4a65c_get_915e3 2 (some (.object "java/lang/Object"))) { frames := 2, cells := 0, slots := 0, locals := 50 } [k_p l 0, k_i (nI t)] σ (.inl (some (k_p (l - 10) j), σ)) 0 0 := by
  refine k_body hla (by decide +kernel) (fun v hv => by simp at hv; rcases hv with rfl | rfl <;> rfl) (Nat.le_of_ble_eq_true rfl) (fun X h hEn hMe => ?_)
  refine r_iload_n h dJx4a65c_get_915e3_0 rfl ?_
  refine r_aload_n h dJx4a65c_get_915e3_1 rfl ?_
  refine r_lsize h hl wd_54 dJx4a65c_get_915e3_2 ?_
  refine r_callS h hMe (rest := []) (as := [k_i (nI t), k_i (nI (k_Z σ l))]) (j_chk la hla G σ _ _ (nI_pos (by omega)) (nI_lt ht (by omega))) kl_Jx4a65c_118 dJx4a65c_get_915e3_5 rfl rfl (by decide) (fun E q => by cases q) (fun r σ' q => ?_)
  cases q
  refine r_pop h dJx4a65c_get_915e3_8 rfl ?_
  refine r_aload_n h dJx4a65c_get_915e3_9 rfl ?_
  refine r_iload_n h dJx4a65c_get_915e3_10 rfl ?_
  refine r_callL h hMe (rest := []) (as := [k_i (nI t)]) (j_elem la hla G σ l t j hl ht (by omega) hP) kl_Jx4a65c_123 dJx4a65c_get_915e3_11 rfl rfl hl rfl (by decide) (fun E q => by cases q) (fun r σ' q => ?_)
  cases q
  exact r_areturn h hEn dJx4a65c_get_915e3_14 rfl rfl (Nat.le_refl _) (Nat.le_refl _)
