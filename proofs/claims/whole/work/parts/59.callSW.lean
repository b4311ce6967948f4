/-! ===== calls of the law: helpers that keep a table, the model's constructor ===== -/
def k_ClW (own : String) (idx : Nat) (y : MethodName) (cc : ByteArray) (maxL : Nat) (ret : Option FieldType) (hh : List (Nat × Nat × Nat × Nat)) (n : Nat) : Prop :=
  Cond.methodLink own idx y ∈ k_Tb ∧ Cond.initialized y.cls ∈ k_Tb ∧ Cond.codeWith y cc maxL ret hh ∈ k_Tb ∧ (y.cls ≠ "java/lang/invoke/MethodHandle" ∧ y.cls ≠ "java/lang/invoke/VarHandle") ∧ (parseMethodDescriptor y.desc).map (fun d => d.parameters.length) = some n ∧ Cond.static y ∈ k_Tb
theorem k_callW {args : Array Value} {s : State} {own : String} {idx : Nat} {y : MethodName} {cc : ByteArray} {maxL : Nat} {ret : Option FieldType} {hh : List (Nat × Nat × Nat × Nat)} {n : Nat} {R rm : Room} {mc ms : Nat} (hts : ∀ w ∈ k_Tb, w.before args s = true) (h : k_ClW own idx y cc maxL ret hh n) (h1 : rm.cells = mc) (h2 : rm.slots = ms) (h3 : rm.frames + 1 ≤ R.frames) (h4 : 8 + (maxL + 11) + rm.locals ≤ R.locals) :
    vx_CSW R s args own idx y cc maxL ret hh (Cond.codeWith y cc maxL ret hh :: k_Tb) rm mc ms n := by
  obtain ⟨a1, a2, a3, a4, a5, a6⟩ := h
  refine ⟨⟨h1, h2, h3, h4, fun w hw a' U hW => ?_, List.mem_cons_self⟩, hts _ a3, hts _ a2, a4, fun sig hs => by rw [hs] at a5; exact (Option.some.inj a5).symm, hts _ a1, hts _ a6⟩
  have hm : w ∈ k_Tb := by
    rcases List.mem_cons.mp hw with rfl | h
    · exact a3
    · exact h
  exact word_at hW (good_of_word (List.mem_filter.mp hm).2) (hts w hm)
theorem r_callSW {X : k_X} {own : String} {cc : ByteArray} {nL : Nat} (h : k_Ok X own cc nL) {la : Launch} {G : k_G} {σ0 : k_S} {rm0 : Room} {nm : String} (hMe : k_Me X la G σ0 rm0 nm) {σ : k_S} {k n pc : Nat} {L : List (Option k_AV)} {idx np maxL mc ms : Nat} {y : MethodName} {cy : ByteArray} {ret : Option FieldType} {hh : List (Nat × Nat × Nat × Nat)} {rm : Room} {oc : k_Oc} {rest as st : List k_AV}
    (hC : k_Ct la G y (Cond.codeWith y cy maxL ret hh :: k_Tb) rm as σ oc mc ms) (hw : k_ClW own idx y cy maxL ret hh np) (d : decode cc pc = .ok (.invokestatic idx, 3)) (hst : st = as.reverse ++ rest) (hn : as.length = np)
    (hr : rm.cells = mc ∧ rm.slots = ms ∧ rm.frames + 1 ≤ rm0.frames ∧ 8 + (maxL + 11) + rm.locals ≤ rm0.locals ∧ k + mc ≤ rm0.cells ∧ n + ms ≤ rm0.slots ∧ rest.length ≤ 4)
    (kx : ∀ E : String, oc = .inr E → k_T X σ (k + mc) (n + ms) pc L E) (kk : ∀ (r : Option k_AV) (σ' : k_S), oc = .inl (r, σ') → k_W X σ' (k + mc) (n + ms) (pc + 3) L (r.toList ++ rest)) : k_W X σ k n pc L st := by
  obtain ⟨p, la', e, R, s, m, args, below, meth, c, Q, G', A0, σ0'⟩ := X
  obtain ⟨rfl, rfl, rfl, rfl, -⟩ := hMe
  intro A E H locs ls hR hE hok hos hS hlc
  obtain ⟨hx, hb, hml, hown, hts, hKS, hlocks, hfl⟩ := h
  obtain ⟨r1, r2, r3, r4, r5, r6, r7⟩ := hr
  have hos2 : k_oks σ (as.reverse ++ rest) := hst ▸ hos
  have hosa : k_oks σ as := fun v hv => hos2 v (by simp [hv])
  have hosr : k_oks σ rest := fun v hv => hos2 v (by simp [hv])
  refine k_after hR hE hok hosr hS hlc (vx_runSX (As := as.map (k_c A)) (rest := rest.map (k_c A)) (g := F0 m pc ls (st.map (k_c A))) (nL := nL) ⟨hx, hb, hml, hown, hts⟩ (hC A E) (k_callW hts hw r1 r2 r3 r4)
    ⟨k_Pc.blind, fun U hU hW => ⟨rfl, hKS.call hW hU hS, by rw [hU]; exact hR, hosa⟩⟩
    rfl (by rw [List.length_map]; exact hn) (by rw [← hml]; exact hlc.1) (by subst hst; simp [List.map_append, List.map_reverse]) (lv_room (Nat.le_trans (k_sum rest) (by omega))) d ⟨r5, r6⟩) kx kk
theorem r_callIA {X : k_X} {own : String} {cc : ByteArray} {nL : Nat} (h : k_Ok X own cc nL) {la : Launch} {G : k_G} {σ0 : k_S} {rm0 : Room} {nm : String} (hMe : k_Me X la G σ0 rm0 nm) (hAI : k_AI X.2.2.2.2.1) {σ : k_S} {k n pc : Nat} {L : List (Option k_AV)} {idx np maxL mc ms : Nat} {b : Nat × Nat} {y : MethodName} {cy : ByteArray} {rm : Room} {oc : k_Oc} {rest as st : List k_AV}
    (hC : k_CtA la G y (k_ws y cy maxL none) rm (.inr b :: as) σ oc mc ms) (hw : k_ClI own idx y cy maxL np) (d : decode cc pc = .ok (.invokespecial idx, 3)) (hst : st = as.reverse ++ .inr b :: rest) (hn : as.length = np)
    (hr : rm.cells = mc ∧ rm.slots = ms ∧ rm.frames + 1 ≤ rm0.frames ∧ 8 + (maxL + 11) + rm.locals ≤ rm0.locals ∧ k + mc ≤ rm0.cells ∧ n + ms ≤ rm0.slots ∧ rest.length ≤ 4)
    (kx : ∀ E : String, oc = .inr E → k_T X σ (k + mc) (n + ms) pc L E) (kk : ∀ (r : Option k_AV) (σ' : k_S), oc = .inl (r, σ') → k_W X σ' (k + mc) (n + ms) (pc + 3) L (r.toList ++ rest)) : k_W X σ k n pc L st := by
  obtain ⟨p, la', e, R, s, m, args, below, meth, c, Q, G', A0, σ0'⟩ := X
  obtain ⟨rfl, rfl, rfl, rfl, -⟩ := hMe
  intro A E H locs ls hR hE hok hos hS hlc
  obtain ⟨hx, hb, hml, hown, hts, hKS, hlocks, hfl⟩ := h
  obtain ⟨r1, r2, r3, r4, r5, r6, r7⟩ := hr
  have hos2 : k_oks σ (as.reverse ++ .inr b :: rest) := hst ▸ hos
  have hosa : k_oks σ (.inr b :: as) := k_oks.cons (hos2 _ (by simp)) (fun v hv => hos2 v (by simp [hv]))
  have hosr : k_oks σ rest := fun v hv => hos2 v (by simp [hv])
  refine k_after hR hE hok hosr hS hlc (vx_runI (As := as.map (k_c A)) (rest := rest.map (k_c A)) (b := A b.1 b.2) (g := F0 m pc ls (st.map (k_c A))) (nL := nL) ⟨hx, hb, hml, hown, hts⟩ (hC A E) ⟨k_callB hts hw.1 r1 r2 r3 r4, hw.2.1, hts _ hw.2.2⟩
    ⟨k_PcA.blind, fun U hU hW => ⟨⟨rfl, hKS.call hW hU hS, by rw [hU]; exact hR, hosa⟩, k_AI.moved hW.alike hAI⟩⟩
    rfl (by rw [List.length_map]; exact hn) (by rw [← hml]; exact hlc.1) (k_split hst) (lv_room (Nat.le_trans (k_sum rest) (by omega))) d ⟨r5, r6⟩) kx kk
