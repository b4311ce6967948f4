/-! ===== JDK: a list grows ===== -/
theorem k_HR.list {G : k_G} {A : k_A} {E E' : Nat → Nat} {σ σ' : k_S} {H H1 : Heap} {l : Nat} (h : k_HR G A E σ H) (hB : G.2.2.2.1 < G.2.2.1) (hl : k_isL l = true) (hn : 0 < k_N σ l) (hz : H.size ≤ H1.size) (hq : ∀ q : Nat, q < H.size → q ≠ A l 0 → (q = E l → q < G.2.2.1) → H1[q]? = H[q]?)
    (hI : k_I σ' = k_I σ) (hJ : k_J σ' = k_J σ) (hD : k_D σ' = k_D σ) (hN : k_N σ' = k_N σ) (hZ : ∀ l', l' ≠ l → k_Z σ' l' = k_Z σ l') (hP : ∀ l' i' k', ¬ (l' = l ∧ i' = 0) → k_P σ' l' i' k' = k_P σ l' i' k') (hPv : ∀ k j, k_P σ' l 0 k = some j → j < k_N σ (l - 10))
    (hE : ∀ l', l' ≠ l → E' l' = E l') (hE2 : E' l = E l ∨ H.size ≤ E' l) (hLi : k_Li G A E' σ' l H1) : k_HR G A E' σ' H1 := by
  obtain ⟨c1, c2, c3, c4, c5, c6⟩ := h
  obtain ⟨g1, mc, cap, g2, g3, g4, g5, g6⟩ := c6 l hl hn
  have hA : ∀ l' i', i' < k_N σ l' → ¬ (l' = l ∧ i' = 0) → H1[A l' i']? = H[A l' i']? := by
    intro l' i' h1 h2
    refine hq _ (c3 l' i' h1).2 (fun e => h2 (c2 l' i' l 0 h1 hn e)) (fun e => ?_)
    rcases g6 with ⟨-, q⟩ | ⟨-, -, q, -⟩
    · rw [e, q]; exact hB
    · exact absurd e (q l' i' h1)
  refine ⟨fun l' i' hl' hi' => ?_, by rw [hN]; exact c2, fun l' i' hi' => ?_, fun l' i' k j hi' hk hP' => ?_, fun l' i' k hi' => ?_, fun l' hl' hn' => ?_⟩
  · rw [hN] at hi'
    have ne : ¬ (l' = l ∧ i' = 0) := fun q => by rw [q.1, hl] at hl'; cases hl'
    exact (c1 l' i' hl' hi').kept rfl (hA l' i' hi' ne) (fun k => k_fv_congr ⟨by rw [hI], by rw [hJ], by rw [hD], hP l' i' k ne⟩)
  · rw [hN] at hi'
    exact ⟨(c3 l' i' hi').1, Nat.lt_of_lt_of_le (c3 l' i' hi').2 hz⟩
  · rw [hN] at hi' ⊢
    by_cases e : l' = l ∧ i' = 0
    · obtain ⟨rfl, rfl⟩ := e
      rw [(k_isL_kd (k := k) hl).1, Nat.add_sub_cancel]
      exact hPv k j hP'
    · rw [hP l' i' k e] at hP'
      exact c4 l' i' k j hi' hk hP'
  · rw [hN] at hi'
    rw [hI]
    exact c5 l' i' k hi'
  · rw [hN] at hn' ⊢
    by_cases e : l' = l
    · subst e
      exact ⟨g1, hLi⟩
    · obtain ⟨d1, mc', cap', d2, d3, d4, d5, d6⟩ := c6 l' hl' hn'
      have ne : ¬ (l' = l ∧ 0 = 0) := fun q => e q.1
      have hEl : E l' < H.size := (Array.getElem?_eq_some_iff.mp d3).1
      have e1 : H1[E l']? = H[E l']? := by
        refine hq _ hEl (fun q => ?_) (fun q => ?_)
        · rcases d6 with ⟨-, z⟩ | ⟨-, -, z, -⟩
          · have := (c3 l 0 hn).1
            omega
          · exact z l 0 hn q.symm
        · rcases d6 with ⟨-, z⟩ | ⟨-, -, -, z⟩
          · rw [z]; exact hB
          · exact absurd q.symm (z l hl hn (Ne.symm e))
      refine ⟨d1, mc', cap', ?_, ?_, by rw [hZ l' e]; exact d4, by rw [hZ l' e]; exact d5, ?_⟩
      · rw [hE l' e, hZ l' e]
        exact d2.kept (hA l' 0 hn' ne)
      · rw [hE l' e, e1, d3, hZ l' e]
        congr 2
        funext j
        rw [hP l' 0 j ne]
      · rw [hE l' e, hN]
        rcases d6 with d6 | ⟨f1, f2, f3, f4⟩
        · exact Or.inl d6
        · refine Or.inr ⟨f1, f2, f3, fun l2 hl2 hn2 hne => ?_⟩
          by_cases e2 : l2 = l
          · subst e2
            rcases hE2 with q | q
            · rw [q]; exact f4 l2 hl2 hn2 hne
            · omega
          · rw [hE l2 e2]
            exact f4 l2 hl2 hn2 hne
/-- a contract whose arguments and answer may be the list's array itself -/
def k_CtR (la : Launch) (G : k_G) (y : MethodName) (ws : List Cond) (rm : Room) (as : (Nat → Nat) → List k_AV) (σ : k_S) (Px : k_A → (Nat → Nat) → Heap → Prop) (Qx : k_A → (Nat → Nat) → State → Outcome → State → Prop) (mc ms : Nat) : Prop :=
  ∀ (A : k_A) (E : Nat → Nat), vx_Met la y ws rm (fun a U => k_Pc G A E σ (as E) a U ∧ Px A E U.heap) (fun _ st o t => Qx A E st o t ∧ va_F (fun q => G.2.2.1 ≤ q) st t) (fun _ _ _ => False) mc ms (fun q => G.2.2.1 ≤ q)
/-- the facts of a raw walk -/
def k_Rw (p : Program) (la : Launch) (e : Env) (R : Room) (s : State) (m : MethodId) (args : Array Value) (below : List Frame) (meth : Method) (c : Code) (Q : State → Prop) (G : k_G) (own : String) (cc : ByteArray) (nL : Nat) (ret : Option FieldType) (rm : Room) (mc ms : Nat) (Qc : State → Outcome → State → Prop) : Prop :=
  p.tables.exec = Jvm.exec ∧ c.code = cc ∧ c.maxLocals = nL ∧ s.vm.findClass own = some m.cls ∧ (∀ w ∈ k_Tb, w.before args s = true) ∧ k_KS G s ∧ meth.locks = false ∧ meth.sig.returnType = ret ∧ R = rm ∧ la.flags = flags0 ∧
  Q = vx_MQ below (fun _ st o t => Qc st o t ∧ va_F (fun q => G.2.2.1 ≤ q) st t) (fun _ _ _ => False) args s mc ms (fun q => G.2.2.1 ≤ q)
theorem k_bodyR {la : Launch} (hla : la.flags = flags0) {G : k_G} {y : MethodName} {cc : ByteArray} {maxL : Nat} {ret : Option FieldType} {rm : Room} {as : (Nat → Nat) → List k_AV} {σ : k_S} {Px : k_A → (Nat → Nat) → Heap → Prop} {Qx : k_A → (Nat → Nat) → State → Outcome → State → Prop} {mc ms : Nat} (hy : plainName y.cls = true) (hw : ∀ E, ∀ v ∈ as E, k_w (some v) = false) (hn : ∀ E, (as E).length ≤ maxL)
    (body : ∀ (A : k_A) (E : Nat → Nat) p e s m args below meth c Q ls, k_Rw p la e rm s m args below meth c Q G y.cls cc maxL ret rm mc ms (Qx A E) → k_HR G A E σ s.heap → k_oks σ (as E) → Px A E s.heap → k_has A (k_args (as E) maxL) ls maxL → W p la e rm s m args below meth c s.heap [] 0 0 Q (F0 m 0 ls [])) : k_CtR la G y (k_ws y cc maxL ret) rm as σ Px Qx mc ms := by
  intro A E
  refine vx_ofW (cc := cc) (maxL := maxL) (ret := ret) hy rfl ?_
  intro p e s m args below meth c s₁ B hml ht hP
  obtain ⟨⟨rfl, hKS, hR, has⟩, hpx⟩ := hP
  have hts := atoms_spec (ws := k_ws y cc maxL ret) B.pre
  obtain ⟨ls, e1, e2⟩ := k_entry (A := A) (m := m) (hw E) (hn E)
  rw [e1]
  exact body A E p e s m _ below meth c _ ls ⟨B.exec, B.bytes, hml, findClass_of_methodNamed B.named, fun w h => hts w (List.mem_cons_of_mem _ h), hKS, B.notSynchronized, B.returns, rfl, hla, rfl⟩ hR has hpx e2
/-- behind a call of such a method -/
theorem k_afterR {p : Program} {la : Launch} {e : Env} {R : Room} {s : State} {m : MethodId} {args : Array Value} {below : List Frame} {meth : Method} {c : Code} {Q : State → Prop} {G : k_G} {H : Heap} {locs : List Loc} {ls : Array Slot} {k n pc mc ms : Nat} {rest st0 : List Value} {a : Array Value} {Qx : State → Outcome → State → Prop}
    (hS : va_S (fun q => G.2.2.1 ≤ q) s.heap H locs)
    (hr : vx_Run p la e R s m args below meth c H locs k n mc ms (F0 m pc ls st0) rest ((fun (_ : Array Value) st o t => Qx st o t ∧ va_F (fun q => G.2.2.1 ≤ q) st t) a) (fun _ _ _ => False) (fun q => G.2.2.1 ≤ q))
    (kk : ∀ (v : Option Value) (st t : State) (locs1 : List Loc), st.heap = H → Qx st (.returned v) t → va_S (fun q => G.2.2.1 ≤ q) s.heap t.heap locs1 → W p la e R s m args below meth c t.heap locs1 (k + mc) (n + ms) Q (F0 m (pc + 3) ls (v.toList ++ rest))) : W p la e R s m args below meth c H locs k n Q (F0 m pc ls st0) := by
  intro T hT X
  rcases hr T hT X with ⟨v, st₀, t, T', Lc, h0, X', hL, e1, e2, ⟨hq, hF⟩, st⟩ | ⟨q, st₀, t, T', Lc, Ex, ce, h0, X', hL, e1, e2, ho, -⟩
  · have hS' := (vx_keep (A1 := fun q => G.2.2.1 ≤ q) (A0 := fun q => G.2.2.1 ≤ q) (free := fun q => G.2.2.1 ≤ q) h0 e1 hS (fun _ _ h => h) (fun _ h => h) hL hF).2.2
    rw [e1] at hS'
    obtain ⟨t2, a1, b1⟩ := kk v st₀ t (locs ++ Lc) h0 hq hS' T' e1 X'
    exact ⟨t2, st t2 a1, b1⟩
  · exact ho.elim
/-- every thing of label 2 .. 7 may stand where an Object may -/
theorem k_any {G : k_G} {A : k_A} {E : Nat → Nat} {σ : k_S} {H : Heap} {s : State} (hR : k_HR G A E σ H) (hKS : k_KS G s) {u j : Nat} (hu : 2 ≤ u) (hu2 : u ≤ 7) (hj : j < k_N σ u) : va_Any "java/lang/Object" s H (A u j) := by
  have key : ∀ (ci N : Nat) (C : String) (T : u_T) (N' : Nat), k_sch u = .inl (ci, N) → k_cl[ci]? = some (C, T, N') → (C, "java/lang/Object") ∈ k_cas → k_isL u = false → va_Any "java/lang/Object" s H (A u j) := by
    intro ci N C T N' hs hc hcas hl
    have hat := hR.1 u j hl hj
    unfold k_at at hat
    rw [hs] at hat
    obtain ⟨cell, q1, q2, q3, q4⟩ := hat
    have hKn := (hKS.1.1 ci _ hc).2
    obtain ⟨kC, hkC, -⟩ := hKn.2
    refine ⟨cell, q1, by rw [q3]; rfl, ⟨kC, by rw [q2]; exact hkC⟩, fun comp hcomp => ?_⟩
    obtain ⟨c0, t0, f1, f2, f3⟩ := Cond.castable_spec (va_Nw.use (A := #[]) rfl (hKS.2.2.2.2.2.2.2.2.2.2.2.1 _ hcas))
    rw [q2]
    have e1 : c0 = G.1.1 ci := Option.some.inj (f1.symm.trans hKn.1)
    have e2 : t0 = comp := Option.some.inj (f2.symm.trans hcomp)
    rw [← e1, ← e2]
    exact f3
  have h7 : u = 2 ∨ u = 3 ∨ u = 4 ∨ u = 5 ∨ u = 6 ∨ u = 7 := by omega
  rcases h7 with rfl | rfl | rfl | rfl | rfl | rfl
  · exact key 4 6 RX3 TX3 6 rfl rfl (by decide +kernel) rfl
  · exact key 7 1 RX6 TX6 1 rfl rfl (by decide +kernel) rfl
  · exact key 1 2 RX0 TX0 2 rfl rfl (by decide +kernel) rfl
  · exact key 3 13 RX2 TX2 13 rfl rfl (by decide +kernel) rfl
  · exact key 5 3 RX4 TX4 3 rfl rfl (by decide +kernel) rfl
  · exact key 2 4 RX1 TX1 4 rfl rfl (by decide +kernel) rfl
def k_ladd (σ : k_S) (l j : Nat) : k_S := k_uZ (k_uP σ l 0 (k_Z σ l) (some j)) l (k_Z σ l + 1)
theorem k_Px.blind {G : k_G} {A : k_A} {E : Nat → Nat} {σ : k_S} {as : List k_AV} {Px : k_A → (Nat → Nat) → Heap → Prop} : FrameBlind (fun a U => k_Pc G A E σ as a U ∧ Px A E U.heap) := fun _ _ _ _ h => ⟨⟨h.1.1, h.1.2.1.blind, h.1.2.2.1, h.1.2.2.2⟩, h.2⟩
