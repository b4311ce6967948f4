/-! ===== calls ===== -/
def k_len (st : List k_AV) : Nat := st.length
theorem k_sum {A : k_A} : ∀ st : List k_AV, ((st.map (k_c A)).map fun v => v.category).sum ≤ 2 * st.length
  | [] => Nat.le_refl _
  | v :: st => by
    have h := k_sum (A := A) st
    have h2 : (k_c A v).category ≤ 2 := by rcases lv_cat (k_c A v) with q | q <;> omega
    simp only [List.map_cons, List.sum_cons, List.length_cons]
    omega
/-- what a call needs of the tables: entry idx of class own is y, of class y.cls, with this code, n parameters -/
def k_Cl (own : String) (idx : Nat) (y : MethodName) (cc : ByteArray) (maxL : Nat) (ret : Option FieldType) (n : Nat) : Prop :=
  Cond.methodLink own idx y ∈ k_Tb ∧ Cond.initialized y.cls ∈ k_Tb ∧ Cond.code y cc maxL ret ∈ k_Tb ∧ (y.cls ≠ "java/lang/invoke/MethodHandle" ∧ y.cls ≠ "java/lang/invoke/VarHandle") ∧ (parseMethodDescriptor y.desc).map (fun d => d.parameters.length) = some n
def k_ClV (own : String) (idx : Nat) (y : MethodName) (cc : ByteArray) (maxL : Nat) (ret : Option FieldType) (n : Nat) : Prop :=
  k_Cl own idx y cc maxL ret n ∧ Cond.instanceMethod y ∈ k_Tb ∧ Cond.selects y.cls y y ∈ k_Tb
def k_ClS (own : String) (idx : Nat) (y : MethodName) (cc : ByteArray) (maxL : Nat) (ret : Option FieldType) (n : Nat) : Prop :=
  k_Cl own idx y cc maxL ret n ∧ Cond.static y ∈ k_Tb
def k_ClI (own : String) (idx : Nat) (y : MethodName) (cc : ByteArray) (maxL : Nat) (n : Nat) : Prop :=
  k_Cl own idx y cc maxL none n ∧ y.name = "<init>" ∧ Cond.instanceMethod y ∈ k_Tb
theorem k_pay {args : Array Value} {s : State} {y : MethodName} {cc : ByteArray} {maxL : Nat} {ret : Option FieldType} (hts : ∀ w ∈ k_Tb, w.before args s = true) (hc : Cond.code y cc maxL ret ∈ k_Tb) : ∀ w ∈ k_ws y cc maxL ret, ∀ (a' : Array Value) (U : State), s.WarmedH U.vm → w.before a' U = true := by
  intro w hw a' U hW
  have hm : w ∈ k_Tb := by
    rcases List.mem_cons.mp hw with rfl | h
    · exact hc
    · exact h
  exact word_at hW (good_of_word (List.mem_filter.mp hm).2) (hts w hm)
theorem k_callB {args : Array Value} {s : State} {own : String} {idx : Nat} {y : MethodName} {cc : ByteArray} {maxL : Nat} {ret : Option FieldType} {n : Nat} {R rm : Room} {mc ms : Nat} (hts : ∀ w ∈ k_Tb, w.before args s = true) (h : k_Cl own idx y cc maxL ret n) (h1 : rm.cells = mc) (h2 : rm.slots = ms) (h3 : rm.frames + 1 ≤ R.frames) (h4 : 8 + (maxL + 11) + rm.locals ≤ R.locals) :
    CallB R s args own idx y cc maxL ret (k_ws y cc maxL ret) rm mc ms n := by
  obtain ⟨a1, a2, a3, a4, a5⟩ := h
  exact ⟨h1, h2, h3, h4, k_pay hts a3, List.mem_cons_self, hts _ a3, hts _ a2, a4, fun sig hs => by rw [hs] at a5; exact (Option.some.inj a5).symm, hts _ a1⟩
/-- what goes on behind a call, from what the callee comes to -/
theorem k_after {p : Program} {la : Launch} {e : Env} {R : Room} {s : State} {m : MethodId} {args : Array Value} {below : List Frame} {meth : Method} {c : Code} {Q : State → Prop} {G : k_G} {A0 : k_A} {σ0 σ : k_S} {A : k_A} {E : Nat → Nat} {H : Heap} {locs : List Loc} {ls : Array Slot} {k n pc mc ms : Nat} {L : List (Option k_AV)} {rest : List k_AV} {st0 : List Value} {oc : k_Oc} {a : Array Value}
    (hR : k_HR G A E σ H) (hE : k_Ext A0 A σ0 σ) (hok : k_okL σ L) (hos : k_oks σ rest) (hS : va_S (fun q => G.2.2.1 ≤ q) s.heap H locs) (hlc : k_has A L ls c.maxLocals)
    (hr : vx_Run p la e R s m args below meth c H locs k n mc ms (F0 m pc ls st0) (rest.map (k_c A)) (k_Qc G A σ oc a) (k_XC G A σ oc) (fun q => G.2.2.1 ≤ q))
    (kx : ∀ X : String, oc = .inr X → k_T (p, la, e, R, s, m, args, below, meth, c, Q, G, A0, σ0) σ (k + mc) (n + ms) pc L X)
    (kk : ∀ (r : Option k_AV) (σ' : k_S), oc = .inl (r, σ') → k_W (p, la, e, R, s, m, args, below, meth, c, Q, G, A0, σ0) σ' (k + mc) (n + ms) (pc + 3) L (r.toList ++ rest)) : W p la e R s m args below meth c H locs k n Q (F0 m pc ls st0) := by
  intro T hT X
  have keep : ∀ (st₀ t T' : State) (Lc : List Loc), st₀.heap = H → T'.heap = t.heap → (∀ q ∈ Lc, G.2.2.1 ≤ q.base) → va_F (fun q => G.2.2.1 ≤ q) st₀ t → va_S (fun q => G.2.2.1 ≤ q) s.heap T'.heap (locs ++ Lc) := fun st₀ t T' Lc h0 e1 hL hF =>
    (vx_keep (A1 := fun q => G.2.2.1 ≤ q) (A0 := fun q => G.2.2.1 ≤ q) (free := fun q => G.2.2.1 ≤ q) h0 e1 hS (fun _ _ h => h) (fun _ h => h) hL hF).2.2
  rcases hr T hT X with ⟨v, st₀, t, T', Lc, h0, X', hL, e1, e2, ⟨r, σ', A', E', ho, hv, hx', hR', hro, hF⟩, st⟩ | ⟨q, st₀, t, T', Lc, Ex, ce, h0, X', hL, e1, e2, ⟨ho, ⟨A', E', hx', hR'⟩, hF⟩, hce, hcv, hcl, st⟩
  · cases hv
    have h9 := kk r σ' ho A' E' T'.heap (locs ++ Lc) ls (by rw [e1]; exact hR') (hE.trans hx') (hok.ext hx') (by
      refine k_oks.app (fun w hw => ?_) (hos.ext hx').1
      cases r with
      | none => cases hw
      | some z => rw [List.mem_singleton.mp hw]; exact hro z rfl) (keep st₀ t T' Lc h0 e1 hL hF) (hlc.ext hx' hok) T' rfl X'
    obtain ⟨t2, a1, b1⟩ := h9
    refine ⟨t2, st t2 ?_, b1⟩
    rw [List.map_append, (hos.ext hx').2] at a1
    have hr9 : (r.toList).map (k_c A') = (r.map (k_c A')).toList := by cases r <;> rfl
    rw [hr9] at a1
    exact a1
  · obtain ⟨t2, a1, b1⟩ := kx Ex ho A' E' T'.heap (locs ++ Lc) ls (rest.map (k_c A)) q ce (by rw [e1]; exact hR') (hE.trans hx') (hok.ext hx') (keep st₀ t T' Lc h0 e1 hL hF) (hlc.ext hx' hok) (by rw [e1]; exact hce) hcv hcl T' rfl X'
    exact ⟨t2, st.trans a1, b1⟩
theorem k_split {A : k_A} {st as rest : List k_AV} {recv : k_AV} (h : st = as.reverse ++ recv :: rest) : st.map (k_c A) = (as.map (k_c A)).reverse ++ k_c A recv :: rest.map (k_c A) := by
  subst h
  simp [List.map_append, List.map_reverse]
theorem r_callV {X : k_X} {own : String} {cc : ByteArray} {nL : Nat} (h : k_Ok X own cc nL) {la : Launch} {G : k_G} {σ0 : k_S} {rm0 : Room} {nm : String} (hMe : k_Me X la G σ0 rm0 nm) {σ : k_S} {k n pc : Nat} {L : List (Option k_AV)} {idx np maxL mc ms l i ci N : Nat} {y : MethodName} {cy : ByteArray} {ret : Option FieldType} {rm : Room} {oc : k_Oc} {rest as st : List k_AV}
    (hC : k_Ct la G y (k_ws y cy maxL ret) rm (k_p l i :: as) σ oc mc ms) (hw : k_ClV own idx y cy maxL ret np) (d : decode cc pc = .ok (.invokevirtual idx, 3)) (hst : st = as.reverse ++ k_p l i :: rest) (hn : as.length = np) (hs : k_sch l = .inl (ci, N)) (hl : k_isL l = false) (hcl : (k_cl[ci]?).map (fun q => q.1) = some y.cls)
    (hr : rm.cells = mc ∧ rm.slots = ms ∧ rm.frames + 1 ≤ rm0.frames ∧ 8 + (maxL + 11) + rm.locals ≤ rm0.locals ∧ k + mc ≤ rm0.cells ∧ n + ms ≤ rm0.slots ∧ rest.length ≤ 4)
    (kx : ∀ E : String, oc = .inr E → k_T X σ (k + mc) (n + ms) pc L E) (kk : ∀ (r : Option k_AV) (σ' : k_S), oc = .inl (r, σ') → k_W X σ' (k + mc) (n + ms) (pc + 3) L (r.toList ++ rest)) : k_W X σ k n pc L st := by
  obtain ⟨p, la', e, R, s, m, args, below, meth, c, Q, G', A0, σ0'⟩ := X
  obtain ⟨rfl, rfl, rfl, rfl, -⟩ := hMe
  intro A E H locs ls hR hE hok hos hS hlc
  obtain ⟨hx, hb, hml, hown, hts, hKS, hlocks, hfl⟩ := h
  obtain ⟨r1, r2, r3, r4, r5, r6, r7⟩ := hr
  have hos2 : k_oks σ (as.reverse ++ k_p l i :: rest) := hst ▸ hos
  have hosa : k_oks σ (k_p l i :: as) := k_oks.cons (hos2 _ (by simp)) (fun v hv => hos2 v (by simp [hv]))
  have hosr : k_oks σ rest := fun v hv => hos2 v (by simp [hv])
  have hi : i < k_N σ l := hosa.head
  have hat := hR.1 l i hl hi
  unfold k_at at hat
  rw [hs] at hat
  obtain ⟨cell, q1, q2, q3, q4⟩ := hat
  cases hcc : k_cl[ci]? with
  | none => rw [hcc] at hcl; cases hcl
  | some r =>
    rw [hcc] at hcl
    have hcl2 : r.1 = y.cls := Option.some.inj hcl
    refine k_after hR hE hok hosr hS hlc (vx_runV (As := as.map (k_c A)) (rest := rest.map (k_c A)) (b := A l i) (g := F0 m pc ls (st.map (k_c A))) (C := y.cls) (nL := nL) ⟨hx, hb, hml, hown, hts⟩ (hC A E) ⟨k_callB hts hw.1 r1 r2 r3 r4, hts _ hw.2.1, hts _ hw.2.2⟩
      ⟨k_Pc.blind, ⟨cell, q1, by rw [q3]; rfl, by rw [q2, ← hcl2]; exact (hKS.1.1 ci r hcc).2.1⟩, fun U hU hW => ⟨rfl, hKS.call hW hU hS, by rw [hU]; exact hR, hosa⟩⟩
      rfl (by rw [List.length_map]; exact hn) (by rw [← hml]; exact hlc.1) (k_split hst) (lv_room (Nat.le_trans (k_sum rest) (by omega))) d ⟨r5, r6⟩) kx kk
theorem r_callS {X : k_X} {own : String} {cc : ByteArray} {nL : Nat} (h : k_Ok X own cc nL) {la : Launch} {G : k_G} {σ0 : k_S} {rm0 : Room} {nm : String} (hMe : k_Me X la G σ0 rm0 nm) {σ : k_S} {k n pc : Nat} {L : List (Option k_AV)} {idx np maxL mc ms : Nat} {y : MethodName} {cy : ByteArray} {ret : Option FieldType} {rm : Room} {oc : k_Oc} {rest as st : List k_AV}
    (hC : k_Ct la G y (k_ws y cy maxL ret) rm as σ oc mc ms) (hw : k_ClS own idx y cy maxL ret np) (d : decode cc pc = .ok (.invokestatic idx, 3)) (hst : st = as.reverse ++ rest) (hn : as.length = np)
    (hr : rm.cells = mc ∧ rm.slots = ms ∧ rm.frames + 1 ≤ rm0.frames ∧ 8 + (maxL + 11) + rm.locals ≤ rm0.locals ∧ k + mc ≤ rm0.cells ∧ n + ms ≤ rm0.slots ∧ rest.length ≤ 4)
    (kx : ∀ E : String, oc = .inr E → k_T X σ (k + mc) (n + ms) pc L E) (kk : ∀ (r : Option k_AV) (σ' : k_S), oc = .inl (r, σ') → k_W X σ' (k + mc) (n + ms) (pc + 3) L (r.toList ++ rest)) : k_W X σ k n pc L st := by
  obtain ⟨p, la', e, R, s, m, args, below, meth, c, Q, G', A0, σ0'⟩ := X
  obtain ⟨rfl, rfl, rfl, rfl, -⟩ := hMe
  intro A E H locs ls hR hE hok hos hS hlc
  obtain ⟨hx, hb, hml, hown, hts, hKS, hlocks, hfl⟩ := h
  obtain ⟨r1, r2, r3, r4, r5, r6, r7⟩ := hr
  have hos2 : k_oks σ (as.reverse ++ rest) := hst ▸ hos
  have hosa : k_oks σ as := fun v hv => hos2 v (by simp [hv])
  have hosr : k_oks σ rest := fun v hv => hos2 v (by simp [hv])
  refine k_after hR hE hok hosr hS hlc (vx_runS (As := as.map (k_c A)) (rest := rest.map (k_c A)) (g := F0 m pc ls (st.map (k_c A))) (nL := nL) ⟨hx, hb, hml, hown, hts⟩ (hC A E) ⟨k_callB hts hw.1 r1 r2 r3 r4, hts _ hw.2⟩
    ⟨k_Pc.blind, fun U hU hW => ⟨rfl, hKS.call hW hU hS, by rw [hU]; exact hR, hosa⟩⟩
    rfl (by rw [List.length_map]; exact hn) (by rw [← hml]; exact hlc.1) (by subst hst; simp [List.map_append, List.map_reverse]) (lv_room (Nat.le_trans (k_sum rest) (by omega))) d ⟨r5, r6⟩) kx kk
theorem r_callI {X : k_X} {own : String} {cc : ByteArray} {nL : Nat} (h : k_Ok X own cc nL) {la : Launch} {G : k_G} {σ0 : k_S} {rm0 : Room} {nm : String} (hMe : k_Me X la G σ0 rm0 nm) {σ : k_S} {k n pc : Nat} {L : List (Option k_AV)} {idx np maxL mc ms : Nat} {b : Nat × Nat} {y : MethodName} {cy : ByteArray} {rm : Room} {oc : k_Oc} {rest as st : List k_AV}
    (hC : k_Ct la G y (k_ws y cy maxL none) rm (.inr b :: as) σ oc mc ms) (hw : k_ClI own idx y cy maxL np) (d : decode cc pc = .ok (.invokespecial idx, 3)) (hst : st = as.reverse ++ .inr b :: rest) (hn : as.length = np)
    (hr : rm.cells = mc ∧ rm.slots = ms ∧ rm.frames + 1 ≤ rm0.frames ∧ 8 + (maxL + 11) + rm.locals ≤ rm0.locals ∧ k + mc ≤ rm0.cells ∧ n + ms ≤ rm0.slots ∧ rest.length ≤ 4)
    (kx : ∀ E : String, oc = .inr E → k_T X σ (k + mc) (n + ms) pc L E) (kk : ∀ (r : Option k_AV) (σ' : k_S), oc = .inl (r, σ') → k_W X σ' (k + mc) (n + ms) (pc + 3) L (r.toList ++ rest)) : k_W X σ k n pc L st := by
  obtain ⟨p, la', e, R, s, m, args, below, meth, c, Q, G', A0, σ0'⟩ := X
  obtain ⟨rfl, rfl, rfl, rfl, -⟩ := hMe
  intro A E H locs ls hR hE hok hos hS hlc
  obtain ⟨hx, hb, hml, hown, hts, hKS, hlocks, hfl⟩ := h
  obtain ⟨r1, r2, r3, r4, r5, r6, r7⟩ := hr
  have hos2 : k_oks σ (as.reverse ++ .inr b :: rest) := hst ▸ hos
  have hosa : k_oks σ (.inr b :: as) := k_oks.cons (hos2 _ (by simp)) (fun v hv => hos2 v (by simp [hv]))
  have hosr : k_oks σ rest := fun v hv => hos2 v (by simp [hv])
  refine k_after hR hE hok hosr hS hlc (vx_runI (As := as.map (k_c A)) (rest := rest.map (k_c A)) (b := A b.1 b.2) (g := F0 m pc ls (st.map (k_c A))) (nL := nL) ⟨hx, hb, hml, hown, hts⟩ (hC A E) ⟨k_callB hts hw.1 r1 r2 r3 r4, hw.2.1, hts _ hw.2.2⟩
    ⟨k_Pc.blind, fun U hU hW => ⟨rfl, hKS.call hW hU hS, by rw [hU]; exact hR, hosa⟩⟩
    rfl (by rw [List.length_map]; exact hn) (by rw [← hml]; exact hlc.1) (k_split hst) (lv_room (Nat.le_trans (k_sum rest) (by omega))) d ⟨r5, r6⟩) kx kk
