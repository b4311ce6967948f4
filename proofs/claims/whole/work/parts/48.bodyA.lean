theorem r_eqP {X : k_X} {σ : k_S} {k n pc : Nat} {L : List (Option k_AV)} {st : List k_AV} {l x y : Nat} (e : x = y) (kk : k_W X σ k n pc L (k_p l y :: st)) : k_W X σ k n pc L (k_p l x :: st) := by rw [e]; exact kk
/-- a contract whose start has the class of int[][] made -/
def k_CtA (la : Launch) (G : k_G) (y : MethodName) (ws : List Cond) (rm : Room) (as : List k_AV) (σ : k_S) (oc : k_Oc) (mc ms : Nat) : Prop :=
  ∀ (A : k_A) (E : Nat → Nat), vx_Met la y ws rm (fun a U => k_Pc G A E σ as a U ∧ k_AI U) (k_Qc G A σ oc) (k_XC G A σ oc) mc ms (fun q => G.2.2.1 ≤ q)
theorem k_PcA.blind {G : k_G} {A : k_A} {E : Nat → Nat} {σ : k_S} {as : List k_AV} : FrameBlind (fun a U => k_Pc G A E σ as a U ∧ k_AI U) := fun _ _ _ _ h => ⟨⟨h.1.1, h.1.2.1.blind, h.1.2.2.1, h.1.2.2.2⟩, h.2⟩
theorem k_bodyA {la : Launch} (hla : la.flags = flags0) {G : k_G} {y : MethodName} {cc : ByteArray} {maxL : Nat} {ret : Option FieldType} {rm : Room} {as : List k_AV} {σ : k_S} {oc : k_Oc} {mc ms : Nat} (hy : plainName y.cls = true) (hw : ∀ v ∈ as, k_w (some v) = false) (hn : as.length ≤ maxL)
    (body : ∀ X : k_X, k_Ok X y.cls cc maxL → k_En X ret oc mc ms [] → k_Me X la G σ rm y.name → k_AI X.2.2.2.2.1 → k_W X σ 0 0 0 (k_args as maxL) []) : k_CtA la G y (k_ws y cc maxL ret) rm as σ oc mc ms := by
  intro A E
  refine vx_ofW (cc := cc) (maxL := maxL) (ret := ret) hy rfl ?_
  intro p e s m args below meth c s₁ B hml ht hP
  obtain ⟨⟨rfl, hKS, hR, has⟩, hAI⟩ := hP
  have hts := atoms_spec (ws := k_ws y cc maxL ret) B.pre
  obtain ⟨ls, e1, e2⟩ := k_entry (A := A) (m := m) hw hn
  rw [e1]
  have key := body (p, la, e, rm, s, m, (as.map (k_c A)).toArray, below, meth, c, vx_MQ below (k_Qc G A σ oc) (k_XC G A σ oc) (as.map (k_c A)).toArray s mc ms (fun q => G.2.2.1 ≤ q), G, A, σ)
    ⟨B.exec, B.bytes, hml, findClass_of_methodNamed B.named, fun w h => hts w (List.mem_cons_of_mem _ h), hKS, B.notSynchronized, hla⟩
    ⟨rfl, B.returns, by
      show _ = tableOf []
      cases h : c.exceptionTable.toList with
      | nil => rfl
      | cons x xs => exact (ht x (by rw [h]; exact List.mem_cons_self)).elim⟩
    ⟨rfl, rfl, rfl, rfl, (name_of_methodNamed B.named B.method).1⟩ hAI
  exact key A E s.heap [] ls hR (k_Ext.refl A σ) (k_okL.args has) (fun v hv => nomatch hv) va_S.rf (by rw [hml]; exact e2)
theorem k_NuI {σ : k_S} {l i k l' : Nat} {v : Int32} : k_N (k_uI σ l i k v) l' = k_N σ l' := rfl
theorem k_NuP {σ : k_S} {l i k l' : Nat} {v : Option Nat} : k_N (k_uP σ l i k v) l' = k_N σ l' := rfl
