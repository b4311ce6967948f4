/-! ===== contracts, their bodies, their ends, calls ===== -/
/-- what a method comes to: an answer and a state, or an exception's class (and the state as it was) -/
abbrev k_Oc : Type := (Option k_AV × k_S) ⊕ String
def k_Pc (G : k_G) (A : k_A) (E : Nat → Nat) (σ : k_S) (as : List k_AV) : Array Value → State → Prop := fun v U => v = (as.map (k_c A)).toArray ∧ k_KS G U ∧ k_HR G A E σ U.heap ∧ k_oks σ as
def k_Qc (G : k_G) (A : k_A) (σ : k_S) (oc : k_Oc) : Array Value → State → Outcome → State → Prop := fun _ st o t =>
  ∃ (r : Option k_AV) (σ' : k_S) (A' : k_A) (E' : Nat → Nat), oc = .inl (r, σ') ∧ o = .returned (r.map (k_c A')) ∧ k_Ext A A' σ σ' ∧ k_HR G A' E' σ' t.heap ∧ (∀ v, r = some v → k_ok σ' v) ∧ va_F (fun q => G.2.2.1 ≤ q) st t
def k_XC (G : k_G) (A : k_A) (σ : k_S) (oc : k_Oc) : String → State → State → Prop := fun X st t =>
  oc = .inr X ∧ (∃ (A' : k_A) (E' : Nat → Nat), k_Ext A A' σ σ ∧ k_HR G A' E' σ t.heap) ∧ va_F (fun q => G.2.2.1 ≤ q) st t
/-- METHOD y, called with as in the state σ, comes to oc -/
def k_Ct (la : Launch) (G : k_G) (y : MethodName) (ws : List Cond) (rm : Room) (as : List k_AV) (σ : k_S) (oc : k_Oc) (mc ms : Nat) : Prop :=
  ∀ (A : k_A) (E : Nat → Nat), vx_Met la y ws rm (k_Pc G A E σ as) (k_Qc G A σ oc) (k_XC G A σ oc) mc ms (fun q => G.2.2.1 ≤ q)
abbrev k_ws (y : MethodName) (cc : ByteArray) (maxL : Nat) (ret : Option FieldType) : List Cond := Cond.code y cc maxL ret :: k_Tb
/-- what a body owes at its end -/
def k_En : k_X → Option FieldType → k_Oc → Nat → Nat → List (Nat × Nat × Nat × Nat) → Prop
  | (p, l, e, R, s, m, args, below, meth, c, Q, G, A0, σ0), ret, oc, mc, ms, hh =>
    Q = vx_MQ below (k_Qc G A0 σ0 oc) (k_XC G A0 σ0 oc) args s mc ms (fun q => G.2.2.1 ≤ q) ∧ meth.sig.returnType = ret ∧ c.exceptionTable.toList = tableOf hh
/-- a method's facts beside k_Ok: its room, its name, its launch, what is fixed, the state at its start -/
def k_Me : k_X → Launch → k_G → k_S → Room → String → Prop
  | (p, l, e, R, s, m, args, below, meth, c, Q, G, A0, σ0), la, G', σ', rm, nm => l = la ∧ G = G' ∧ σ0 = σ' ∧ R = rm ∧ meth.name = nm
def k_args (as : List k_AV) (maxL : Nat) : List (Option k_AV) := as.map some ++ List.replicate (maxL - as.length) none
theorem k_lvargs {A : k_A} : ∀ (as : List k_AV) (i : Nat), (∀ v ∈ as, k_w (some v) = false) → ∀ (j : Nat) (v : k_AV), as[j]? = some v → (i + j, k_c A v) ∈ lv_args i (as.map (k_c A))
  | [], _, _, _, _, hj => by cases hj
  | a :: as, i, h, j, v, hj => by
    have h1 : ¬ (k_c A a).category = 2 := k_w_cat (h a List.mem_cons_self)
    show _ ∈ (i, k_c A a) :: lv_args (if (k_c A a).category = 2 then i + 2 else i + 1) (as.map (k_c A))
    rw [if_neg h1]
    cases j with
    | zero => cases hj; exact List.mem_cons_self
    | succ j =>
      refine List.mem_cons_of_mem _ ?_
      have := k_lvargs (A := A) as (i + 1) (fun v hv => h v (List.mem_cons_of_mem _ hv)) j v hj
      rw [show i + (j + 1) = i + 1 + j by omega]
      exact this
theorem k_lgsl {A : k_A} : ∀ (as : List k_AV), (∀ v ∈ as, k_w (some v) = false) → (lg_sl (as.map (k_c A))).length = as.length
  | [], _ => rfl
  | a :: as, h => by
    have h1 : ¬ (k_c A a).category = 2 := k_w_cat (h a List.mem_cons_self)
    have := k_lgsl (A := A) as (fun v hv => h v (List.mem_cons_of_mem _ hv))
    unfold lg_sl at this ⊢
    rw [List.map_cons, List.flatMap_cons, if_neg h1, List.length_append, this]
    simp
    omega
theorem k_okL.args {σ : k_S} {as : List k_AV} {maxL : Nat} (h : k_oks σ as) : k_okL σ (k_args as maxL) := fun v hv => by
  rcases List.mem_append.mp hv with h1 | h1
  · obtain ⟨w, h2, h3⟩ := List.mem_map.mp h1
    cases h3
    exact h v h2
  · have := (List.mem_replicate.mp h1).2
    cases this
theorem k_entry {A : k_A} {as : List k_AV} {maxL : Nat} {m : MethodId} (hw : ∀ v ∈ as, k_w (some v) = false) (hn : as.length ≤ maxL) : ∃ ls : Array Slot, entryFrame m (as.map (k_c A)).toArray maxL = F0 m 0 ls [] ∧ k_has A (k_args as maxL) ls maxL := by
  refine ⟨_, lg_entry_eq m _ maxL, ?_⟩
  have h := lv_entry (as.map (k_c A)) (n := maxL) (by rw [k_lgsl as hw]; exact hn)
  refine ⟨h.1, h.2.1, fun i v hv => ?_⟩
  have h2 : as[i]? = some v := by
    unfold k_args at hv
    by_cases hi : i < (as.map some).length
    · rw [List.getElem?_append_left hi, List.getElem?_map] at hv
      cases h3 : as[i]? with
      | none => rw [h3] at hv; cases hv
      | some z => rw [h3] at hv; cases hv; rfl
    · rw [List.getElem?_append_right (by omega), List.getElem?_replicate] at hv
      split at hv <;> cases hv
  have h3 := k_lvargs (A := A) as 0 hw i v h2
  rw [Nat.zero_add] at h3
  exact h.2.2 _ h3
theorem k_Pc.blind {G : k_G} {A : k_A} {E : Nat → Nat} {σ : k_S} {as : List k_AV} : FrameBlind (k_Pc G A E σ as) := fun _ _ _ _ h => ⟨h.1, h.2.1.blind, h.2.2.1, h.2.2.2⟩
/-- a body that keeps no table -/
theorem k_body {la : Launch} (hla : la.flags = flags0) {G : k_G} {y : MethodName} {cc : ByteArray} {maxL : Nat} {ret : Option FieldType} {rm : Room} {as : List k_AV} {σ : k_S} {oc : k_Oc} {mc ms : Nat} (hy : plainName y.cls = true) (hw : ∀ v ∈ as, k_w (some v) = false) (hn : as.length ≤ maxL)
    (body : ∀ X : k_X, k_Ok X y.cls cc maxL → k_En X ret oc mc ms [] → k_Me X la G σ rm y.name → k_W X σ 0 0 0 (k_args as maxL) []) : k_Ct la G y (k_ws y cc maxL ret) rm as σ oc mc ms := by
  intro A E
  refine vx_ofW (cc := cc) (maxL := maxL) (ret := ret) hy rfl ?_
  intro p e s m args below meth c s₁ B hml ht hP
  obtain ⟨rfl, hKS, hR, has⟩ := hP
  have hts := atoms_spec (ws := k_ws y cc maxL ret) B.pre
  obtain ⟨ls, e1, e2⟩ := k_entry (A := A) (m := m) hw hn
  rw [e1]
  have key := body (p, la, e, rm, s, m, (as.map (k_c A)).toArray, below, meth, c, vx_MQ below (k_Qc G A σ oc) (k_XC G A σ oc) (as.map (k_c A)).toArray s mc ms (fun q => G.2.2.1 ≤ q), G, A, σ)
    ⟨B.exec, B.bytes, hml, findClass_of_methodNamed B.named, fun w h => hts w (List.mem_cons_of_mem _ h), hKS, B.notSynchronized, hla⟩
    ⟨rfl, B.returns, by
      show _ = tableOf []
      cases h : c.exceptionTable.toList with
      | nil => rfl
      | cons x xs => exact (ht x (by rw [h]; exact List.mem_cons_self)).elim⟩
    ⟨rfl, rfl, rfl, rfl, (name_of_methodNamed B.named B.method).1⟩
  exact key A E s.heap [] ls hR (k_Ext.refl A σ) (k_okL.args has) (fun v hv => nomatch hv) va_S.rf (by rw [hml]; exact e2)
/-- .. that has a table -/
theorem k_bodyH {la : Launch} (hla : la.flags = flags0) {G : k_G} {y : MethodName} {cc : ByteArray} {maxL : Nat} {ret : Option FieldType} {hh : List (Nat × Nat × Nat × Nat)} {rm : Room} {as : List k_AV} {σ : k_S} {oc : k_Oc} {mc ms : Nat} (hy : plainName y.cls = true) (hw : ∀ v ∈ as, k_w (some v) = false) (hn : as.length ≤ maxL)
    (body : ∀ X : k_X, k_Ok X y.cls cc maxL → k_En X ret oc mc ms hh → k_Me X la G σ rm y.name → k_W X σ 0 0 0 (k_args as maxL) []) : k_Ct la G y (Cond.codeWith y cc maxL ret hh :: k_Tb) rm as σ oc mc ms := by
  intro A E
  refine vx_ofWH (cc := cc) (maxL := maxL) (ret := ret) hy rfl ?_
  intro p e s m args below meth c s₁ B hml hP
  obtain ⟨rfl, hKS, hR, has⟩ := hP
  have hts := atoms_spec (ws := Cond.codeWith y cc maxL ret hh :: k_Tb) B.pre
  obtain ⟨ls, e1, e2⟩ := k_entry (A := A) (m := m) hw hn
  rw [e1]
  have key := body (p, la, e, rm, s, m, (as.map (k_c A)).toArray, below, meth, c, vx_MQ below (k_Qc G A σ oc) (k_XC G A σ oc) (as.map (k_c A)).toArray s mc ms (fun q => G.2.2.1 ≤ q), G, A, σ)
    ⟨B.exec, B.bytes, hml, findClass_of_methodNamed B.named, fun w h => hts w (List.mem_cons_of_mem _ h), hKS, B.notSynchronized, hla⟩
    ⟨rfl, B.returns, vx_table (x := y) B (hts _ List.mem_cons_self)⟩
    ⟨rfl, rfl, rfl, rfl, (name_of_methodNamed B.named B.method).1⟩
  exact key A E s.heap [] ls hR (k_Ext.refl A σ) (k_okL.args has) (fun v hv => nomatch hv) va_S.rf (by rw [hml]; exact e2)
/-- the heap has grown -/
theorem k_HR.grow {G : k_G} {A : k_A} {E : Nat → Nat} {σ : k_S} {H H1 : Heap} (h : k_HR G A E σ H) (hz : H.size ≤ H1.size) (hq : ∀ q : Nat, q < H.size → H1[q]? = H[q]?) : k_HR G A E σ H1 := by
  obtain ⟨c1, c2, c3, c4, c5, c6⟩ := h
  refine ⟨fun l i hl hi => (c1 l i hl hi).kept rfl (hq _ (c1 l i hl hi).lt) (fun _ => rfl), c2, fun l i hi => ⟨(c3 l i hi).1, Nat.lt_of_lt_of_le (c3 l i hi).2 hz⟩, c4, c5, fun l hl hn => ?_⟩
  obtain ⟨d1, mc, cap, d2, d3, d4, d5, d6⟩ := c6 l hl hn
  refine ⟨d1, mc, cap, d2.kept (hq _ ?_), ?_, d4, d5, d6⟩
  · obtain ⟨cell, q1, -⟩ := d2
    exact (Array.getElem?_eq_some_iff.mp q1).1
  · rw [hq _ (Array.getElem?_eq_some_iff.mp d3).1]
    exact d3
theorem r_ireturn {X : k_X} {own : String} {cc : ByteArray} {nL : Nat} (h : k_Ok X own cc nL) {ret : Option FieldType} {oc : k_Oc} {mc ms : Nat} {hh : List (Nat × Nat × Nat × Nat)} (hEn : k_En X ret oc mc ms hh) {σ : k_S} {k n pc : Nat} {L : List (Option k_AV)} {x : Int32} {ty : FieldType} (d : decode cc pc = .ok (.ireturn, 1)) (hrt : ret = some ty) (hnar : narrow ty (.int x) = .int x) (ho : oc = .inl (some (k_i x), σ)) (hk : k ≤ mc) (hn : n ≤ ms) : k_W X σ k n pc L [k_i x] := by
  obtain ⟨p, la, e, R, s, m, args, below, meth, c, Q, G, A0, σ0⟩ := X
  obtain ⟨rfl, hret, -⟩ := hEn
  intro A E H locs ls hR hE hok hos hS hlc
  obtain ⟨hx, hb, -, hown, hts, hKS, hlocks, -⟩ := h
  refine W.widen hk hn (vx_ret ?_)
  exact W.zret hx hb (hret.trans hrt) hnar (fun t ht hW => ⟨some (k_i x), σ, A, E, ho, rfl, hE, by rw [ht]; exact hR, (fun v q => by cases q; trivial), hS.F ht⟩) hS.2.2 d hlocks
theorem r_return {X : k_X} {own : String} {cc : ByteArray} {nL : Nat} (h : k_Ok X own cc nL) {ret : Option FieldType} {oc : k_Oc} {mc ms : Nat} {hh : List (Nat × Nat × Nat × Nat)} (hEn : k_En X ret oc mc ms hh) {σ : k_S} {k n pc : Nat} {L : List (Option k_AV)}  (d : decode cc pc = .ok (.return_, 1)) (hrt : ret = none) (ho : oc = .inl (none, σ)) (hk : k ≤ mc) (hn : n ≤ ms) : k_W X σ k n pc L [] := by
  obtain ⟨p, la, e, R, s, m, args, below, meth, c, Q, G, A0, σ0⟩ := X
  obtain ⟨rfl, hret, -⟩ := hEn
  intro A E H locs ls hR hE hok hos hS hlc
  obtain ⟨hx, hb, -, hown, hts, hKS, hlocks, -⟩ := h
  refine W.widen hk hn (vx_ret ?_)
  exact W.vret hx hb (hret.trans hrt) (fun t ht hW => ⟨none, σ, A, E, ho, rfl, hE, by rw [ht]; exact hR, (fun v q => nomatch q), hS.F ht⟩) hS.2.2 d hlocks
theorem r_lreturn {X : k_X} {own : String} {cc : ByteArray} {nL : Nat} (h : k_Ok X own cc nL) {ret : Option FieldType} {oc : k_Oc} {mc ms : Nat} {hh : List (Nat × Nat × Nat × Nat)} (hEn : k_En X ret oc mc ms hh) {σ : k_S} {k n pc : Nat} {L : List (Option k_AV)} {x : Int64} (d : decode cc pc = .ok (.lreturn, 1)) (hrt : ret = some .long) (ho : oc = .inl (some (k_l x), σ)) (hk : k ≤ mc) (hn : n ≤ ms) : k_W X σ k n pc L [k_l x] := by
  obtain ⟨p, la, e, R, s, m, args, below, meth, c, Q, G, A0, σ0⟩ := X
  obtain ⟨rfl, hret, -⟩ := hEn
  intro A E H locs ls hR hE hok hos hS hlc
  obtain ⟨hx, hb, -, hown, hts, hKS, hlocks, -⟩ := h
  refine W.widen hk hn (vx_ret ?_)
  exact W.lret hx hb (hret.trans hrt) (fun t ht hW => ⟨some (k_l x), σ, A, E, ho, rfl, hE, by rw [ht]; exact hR, (fun v q => by cases q; trivial), hS.F ht⟩) hS.2.2 d hlocks
theorem r_dreturn {X : k_X} {own : String} {cc : ByteArray} {nL : Nat} (h : k_Ok X own cc nL) {ret : Option FieldType} {oc : k_Oc} {mc ms : Nat} {hh : List (Nat × Nat × Nat × Nat)} (hEn : k_En X ret oc mc ms hh) {σ : k_S} {k n pc : Nat} {L : List (Option k_AV)} {x : UInt64} (d : decode cc pc = .ok (.dreturn, 1)) (hrt : ret = some .double) (ho : oc = .inl (some (k_d x), σ)) (hk : k ≤ mc) (hn : n ≤ ms) : k_W X σ k n pc L [k_d x] := by
  obtain ⟨p, la, e, R, s, m, args, below, meth, c, Q, G, A0, σ0⟩ := X
  obtain ⟨rfl, hret, -⟩ := hEn
  intro A E H locs ls hR hE hok hos hS hlc
  obtain ⟨hx, hb, -, hown, hts, hKS, hlocks, -⟩ := h
  refine W.widen hk hn (vx_ret ?_)
  exact W.dret hx hb (hret.trans hrt) (fun t ht hW => ⟨some (k_d x), σ, A, E, ho, rfl, hE, by rw [ht]; exact hR, (fun v q => by cases q; trivial), hS.F ht⟩) hS.2.2 d hlocks
theorem r_freturn {X : k_X} {own : String} {cc : ByteArray} {nL : Nat} (h : k_Ok X own cc nL) {ret : Option FieldType} {oc : k_Oc} {mc ms : Nat} {hh : List (Nat × Nat × Nat × Nat)} (hEn : k_En X ret oc mc ms hh) {σ : k_S} {k n pc : Nat} {L : List (Option k_AV)} {x : UInt32} (d : decode cc pc = .ok (.freturn, 1)) (hrt : ret = some .float) (ho : oc = .inl (some (k_f x), σ)) (hk : k ≤ mc) (hn : n ≤ ms) : k_W X σ k n pc L [k_f x] := by
  obtain ⟨p, la, e, R, s, m, args, below, meth, c, Q, G, A0, σ0⟩ := X
  obtain ⟨rfl, hret, -⟩ := hEn
  intro A E H locs ls hR hE hok hos hS hlc
  obtain ⟨hx, hb, -, hown, hts, hKS, hlocks, -⟩ := h
  refine W.widen hk hn (vx_ret ?_)
  exact W.fret hx hb (hret.trans hrt) (fun t ht hW => ⟨some (k_f x), σ, A, E, ho, rfl, hE, by rw [ht]; exact hR, (fun v q => by cases q; trivial), hS.F ht⟩) hS.2.2 d hlocks
theorem r_areturn {X : k_X} {own : String} {cc : ByteArray} {nL : Nat} (h : k_Ok X own cc nL) {ret : Option FieldType} {oc : k_Oc} {mc ms : Nat} {hh : List (Nat × Nat × Nat × Nat)} (hEn : k_En X ret oc mc ms hh) {σ : k_S} {k n pc : Nat} {L : List (Option k_AV)} {q : Nat × Nat} {C : String} (d : decode cc pc = .ok (.areturn, 1)) (hrt : ret = some (.object C)) (ho : oc = .inl (some (.inr q), σ)) (hk : k ≤ mc) (hn : n ≤ ms) : k_W X σ k n pc L [.inr q] := by
  obtain ⟨p, la, e, R, s, m, args, below, meth, c, Q, G, A0, σ0⟩ := X
  obtain ⟨rfl, hret, -⟩ := hEn
  intro A E H locs ls hR hE hok hos hS hlc
  obtain ⟨hx, hb, -, hown, hts, hKS, hlocks, -⟩ := h
  refine W.widen hk hn (vx_ret ?_)
  exact W.aret (v := .ref (A q.1 q.2)) hx hb (hret.trans hrt) (Or.inl ⟨_, rfl⟩) (Or.inr ⟨_, rfl⟩) (fun t ht hW => ⟨some (.inr q), σ, A, E, ho, rfl, hE, by rw [ht]; exact hR, (fun v z => by cases z; exact hos.head), hS.F ht⟩) hS.2.2 d hlocks
theorem r_areturnN {X : k_X} {own : String} {cc : ByteArray} {nL : Nat} (h : k_Ok X own cc nL) {ret : Option FieldType} {oc : k_Oc} {mc ms : Nat} {hh : List (Nat × Nat × Nat × Nat)} (hEn : k_En X ret oc mc ms hh) {σ : k_S} {k n pc : Nat} {L : List (Option k_AV)} {C : String} (d : decode cc pc = .ok (.areturn, 1)) (hrt : ret = some (.object C)) (ho : oc = .inl (some k_n, σ)) (hk : k ≤ mc) (hn : n ≤ ms) : k_W X σ k n pc L [k_n] := by
  obtain ⟨p, la, e, R, s, m, args, below, meth, c, Q, G, A0, σ0⟩ := X
  obtain ⟨rfl, hret, -⟩ := hEn
  intro A E H locs ls hR hE hok hos hS hlc
  obtain ⟨hx, hb, -, hown, hts, hKS, hlocks, -⟩ := h
  refine W.widen hk hn (vx_ret ?_)
  exact W.aret (v := .null) hx hb (hret.trans hrt) (Or.inl ⟨_, rfl⟩) (Or.inl rfl) (fun t ht hW => ⟨some k_n, σ, A, E, ho, rfl, hE, by rw [ht]; exact hR, (fun v z => by cases z; trivial), hS.F ht⟩) hS.2.2 d hlocks
/-- an exception goes on to the caller: no row of the table takes it -/
theorem k_T.out {X : k_X} {own : String} {cc : ByteArray} {nL : Nat} (h : k_Ok X own cc nL) {ret : Option FieldType} {oc : k_Oc} {mc ms : Nat} (hEn : k_En X ret oc mc ms []) {la : Launch} {G : k_G} {σ0 : k_S} {rm : Room} {nm : String} (hMe : k_Me X la G σ0 rm nm) {k n pc : Nat} {L : List (Option k_AV)} {E : String} (ho : oc = .inr E) (hk : k ≤ mc) (hn : n ≤ ms) : k_T X σ0 k n pc L E := by
  obtain ⟨p, la', e, R, s, m, args, below, meth, c, Q, G', A0, σ0'⟩ := X
  obtain ⟨rfl, hret, htab⟩ := hEn
  obtain ⟨rfl, rfl, rfl, rfl, -⟩ := hMe
  intro A E' H locs ls rest q ce hR hE hok hS hlc hce hcv hcl
  obtain ⟨hx, hb, -, hown, hts, hKS, hlocks, -⟩ := h
  refine vx_out (fun x hx => by rw [htab] at hx; cases hx) hlocks hce hcv hcl (fun t ht hal => ⟨ho, ⟨A, E', hE, by rw [ht]; exact hR⟩, hS.F ht⟩) hS.2.2 hk hn
/-- what 'throw new E("..")' needs of the tables -/
def k_Th (own : String) (ik is ic : Nat) (cls text : String) (j : Nat) : Prop :=
  Bundle.fit cls = true ∧ Cond.classLink own ik cls ∈ k_Tb ∧ Cond.initialized cls ∈ k_Tb ∧ k_txt[j]? = some (own, is, text) ∧ ∀ w ∈ vx_atS own ic cls ["java/lang/RuntimeException", "java/lang/Exception"], w ∈ k_Tb ∨ w ∈ k_cas.map (fun q => Cond.castable q.1 q.2) ∨ w ∈ k_dec.map Cond.declares
theorem k_good {w : Cond} (h : w ∈ k_Tb) : vx_ot w = true := by
  unfold vx_ot
  rw [(List.mem_filter.mp h).2, Bool.or_true]
theorem r_throw {X : k_X} {own : String} {cc : ByteArray} {nL : Nat} (h : k_Ok X own cc nL) {ret : Option FieldType} {oc : k_Oc} {mc ms : Nat} (hEn : k_En X ret oc mc ms []) {la : Launch} {G : k_G} {σ0 : k_S} {rm : Room} {nm : String} (hMe : k_Me X la G σ0 rm nm) {k n pc : Nat} {L : List (Option k_AV)} {ik is ic j : Nat} {cls text : String} (hT : k_Th own ik is ic cls text j)
    (d0 : decode cc pc = .ok (.new ik, 3)) (d3 : decode cc (pc + 3) = .ok (.dup, 1)) (d4 : decode cc (pc + 4) = .ok (.ldc is, 2)) (d6 : decode cc (pc + 6) = .ok (.invokespecial ic, 3)) (d9 : decode cc (pc + 9) = .ok (.athrow, 1))
    (ho : oc = .inr cls) (hr : 6 ≤ rm.frames ∧ 82 ≤ rm.locals ∧ k + 1 ≤ rm.cells ∧ n + 6 ≤ rm.slots) (hk : k + 1 ≤ mc) (hn : n + 6 ≤ ms) : k_W X σ0 k n pc L [] := by
  obtain ⟨p, la', e, R, s, m, args, below, meth, c, Q, G', A0, σ0'⟩ := X
  obtain ⟨rfl, hret, htab⟩ := hEn
  obtain ⟨rfl, rfl, rfl, rfl, -⟩ := hMe
  intro A E H locs ls hR hE hok hos hS hlc
  obtain ⟨hx, hb, hml, hown, hts, hKS, hlocks, hfl⟩ := h
  obtain ⟨t1, t2, t3, t4, t5⟩ := hT
  obtain ⟨hKK, hBs, hU, hN, hstr, -, -, -, -, -, -, hcas, hdec⟩ := hKS
  have soft : ∀ w, (w ∈ k_Tb ∨ w ∈ k_cas.map (fun q => Cond.castable q.1 q.2) ∨ w ∈ k_dec.map Cond.declares) → w.before args s = true ∧ vx_ot w = true := by
    intro w hw
    rcases hw with hw | hw | hw
    · exact ⟨hts w hw, k_good hw⟩
    · obtain ⟨q, h1, rfl⟩ := List.mem_map.mp hw
      exact ⟨va_Nw.use rfl (hcas q h1), rfl⟩
    · obtain ⟨q, h1, rfl⟩ := List.mem_map.mp hw
      exact ⟨va_Nw.use rfl (hdec q h1), rfl⟩
  refine vx_throwS (names := ["java/lang/RuntimeException", "java/lang/Exception"]) hx hb (by unfold Launch.stackTraces; rw [hfl]; exact k_fl) hown t1 (by decide +kernel) (hts _ t2) (hts _ t3) (hstr j _ t4) (fun w hw => (soft w (t5 w hw)).1) (fun w hw => by
    rcases List.mem_cons.mp hw with rfl | hw
    · exact k_good t2
    · rcases List.mem_cons.mp hw with rfl | hw
      · exact k_good t3
      · exact (soft w (t5 w hw)).2) hU hN hS hlc.1 d0 d3 d4 d6 d9 (fun x hx => by rw [htab] at hx; cases hx) (by show 2 + 3 < _; omega) (by show 0 + (13 * (2 + 1) + 43) ≤ _; omega) hr.2.2.1 hr.2.2.2 hlocks
    (fun t hal hz hq => ⟨ho, ⟨A, E, hE, hR.grow hz hq⟩, Nat.le_trans hS.1 hz, fun q h1 h2 => by rw [hq q (Nat.lt_of_lt_of_le h1 hS.1)]; exact hS.2.1 q h1 h2⟩) hS.2.2 hk hn
