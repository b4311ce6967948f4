/-! ===== rows that read and write the world ===== -/
theorem k_fv_congr {A : k_A} {σ σ' : k_S} {l i k : Nat} (h : k_I σ' l i k = k_I σ l i k ∧ k_J σ' l i k = k_J σ l i k ∧ k_D σ' l i k = k_D σ l i k ∧ k_P σ' l i k = k_P σ l i k) : k_fv A σ' l i k = k_fv A σ l i k := by
  unfold k_fv
  rw [h.1, h.2.1, h.2.2.1, h.2.2.2]
theorem k_at.kept {G : k_G} {A A' : k_A} {σ σ' : k_S} {l i : Nat} {H H1 : Heap} (h : k_at G A σ l i H) (hA : A' l i = A l i) (hq : H1[A l i]? = H[A l i]?) (hv : ∀ k, k_fv A' σ' l i k = k_fv A σ l i k) : k_at G A' σ' l i H1 := by
  have e : k_fv A' σ' l i = k_fv A σ l i := funext hv
  unfold k_at at h ⊢
  cases hs : k_sch l with
  | inl q => rw [hs] at h; dsimp only at h ⊢; rw [e, hA]; exact h.kept hq
  | inr q => rw [hs] at h; dsimp only at h ⊢; rw [e, hA, hq]; exact h
theorem k_at.lt {G : k_G} {A : k_A} {σ : k_S} {l i : Nat} {H : Heap} (h : k_at G A σ l i H) : A l i < H.size := by
  unfold k_at at h
  cases hs : k_sch l with
  | inl q =>
    rw [hs] at h
    obtain ⟨cell, h2, -⟩ := h
    exact (Array.getElem?_eq_some_iff.mp h2).1
  | inr q => rw [hs] at h; exact (Array.getElem?_eq_some_iff.mp h).1
/-- the thing (l, i) is written -/
theorem k_HR.put {G : k_G} {A : k_A} {E : Nat → Nat} {σ σ' : k_S} {H H1 : Heap} {l i : Nat} (h : k_HR G A E σ H) (hB : G.2.2.2.1 < G.2.2.1) (hl : k_isL l = false) (hi : i < k_N σ l) (oq : ∀ q : Nat, q ≠ A l i → H1[q]? = H[q]?) (hz : H1.size = H.size) (hN : k_N σ' = k_N σ) (hZ : k_Z σ' = k_Z σ) (hc : k_at G A σ' l i H1)
    (hsame : ∀ l' i', ¬ (l' = l ∧ i' = i) → ∀ k, k_I σ' l' i' k = k_I σ l' i' k ∧ k_J σ' l' i' k = k_J σ l' i' k ∧ k_D σ' l' i' k = k_D σ l' i' k ∧ k_P σ' l' i' k = k_P σ l' i' k)
    (hp : ∀ k j, 3 ≤ k_kd l k → k_P σ' l i k = some j → j < k_N σ (k_kd l k - 3)) (hf : ∀ k, k_fit (k_ty l k) (k_I σ' l i k)) : k_HR G A E σ' H1 := by
  obtain ⟨c1, c2, c3, c4, c5, c6⟩ := h
  have hne : ∀ l' i', i' < k_N σ l' → ¬ (l' = l ∧ i' = i) → A l' i' ≠ A l i := fun l' i' h' n e => n (c2 l' i' l i h' hi e)
  refine ⟨fun l' i' hl' hi' => ?_, by rw [hN]; exact c2, fun l' i' hi' => ?_, fun l' i' k j hi' hk hP => ?_, fun l' i' k hi' => ?_, fun l' hl' hn => ?_⟩
  · rw [hN] at hi'
    by_cases e : l' = l ∧ i' = i
    · obtain ⟨rfl, rfl⟩ := e
      exact hc
    · exact (c1 l' i' hl' hi').kept rfl (oq _ (hne l' i' hi' e)) (fun k => k_fv_congr (hsame l' i' e k))
  · rw [hN] at hi'
    rw [hz]
    exact c3 l' i' hi'
  · rw [hN] at hi' ⊢
    by_cases e : l' = l ∧ i' = i
    · obtain ⟨rfl, rfl⟩ := e
      exact hp k j hk hP
    · rw [(hsame l' i' e k).2.2.2] at hP
      exact c4 l' i' k j hi' hk hP
  · rw [hN] at hi'
    by_cases e : l' = l ∧ i' = i
    · obtain ⟨rfl, rfl⟩ := e
      exact hf k
    · rw [(hsame l' i' e k).1]
      exact c5 l' i' k hi'
  · rw [hN] at hn ⊢
    obtain ⟨d1, mc, cap, d2, d3, d4, d5, d6⟩ := c6 l' hl' hn
    have e : ¬ (l' = l ∧ 0 = i) := fun q => by rw [q.1, hl] at hl'; cases hl'
    have hE : E l' ≠ A l i := by
      rcases d6 with ⟨-, q⟩ | ⟨-, -, q, -⟩
      · have := (c3 l i hi).1
        omega
      · exact fun z => q l i hi z.symm
    refine ⟨d1, mc, cap, ?_, ?_, by rw [hZ]; exact d4, by rw [hZ]; exact d5, ?_⟩
    · rw [hZ]
      exact d2.kept (oq _ (hne l' 0 hn e))
    · rw [oq _ hE, hZ, d3]
      congr 2
      funext j
      rw [(hsame l' 0 e j).2.2.2]
    · rw [hN]
      exact d6
theorem k_up3_s {α : Type} {f : Nat → Nat → Nat → α} {l i k : Nat} {v : α} : k_up3 f l i k v l i k = v := if_pos ⟨rfl, rfl, rfl⟩
theorem k_up3_n {α : Type} {f : Nat → Nat → Nat → α} {l i k l' i' k' : Nat} {v : α} (h : ¬ (l' = l ∧ i' = i ∧ k' = k)) : k_up3 f l i k v l' i' k' = f l' i' k' := if_neg h
theorem k_up3_o {α : Type} {f : Nat → Nat → Nat → α} {l i k l' i' k' : Nat} {v : α} (h : ¬ (l' = l ∧ i' = i)) : k_up3 f l i k v l' i' k' = f l' i' k' := if_neg (fun q => h ⟨q.1, q.2.1⟩)
/-- a field of an object, as the tables have it: class own reads it by entry idx; it is field f of class ci -/
def k_F (own : String) (idx ci N f : Nat) : Prop := ∃ (C : String) (T : u_T), k_cl[ci]? = some (C, T, N) ∧ f < N ∧ (∀ w ∈ u_ws C T N, w ∈ k_Tb) ∧ Cond.fieldLink own idx (T f).1 (T f).2.1 (T f).2.2.1 ∈ k_Tb
/-- .. and may write it there: its type, whether it is final -/
def k_FP (own : String) (idx ci N f : Nat) (ty : FieldType) (fin : Bool) : Prop := ∃ (C : String) (T : u_T) (ty0 : Nat → FieldType), k_cl[ci]? = some (C, T, N) ∧ f < N ∧ (∀ w ∈ u_ws C T N, w ∈ k_Tb) ∧ Cond.fieldLink own idx (T f).1 (T f).2.1 (T f).2.2.1 ∈ k_Tb ∧
  (∀ k, k < N → parseFieldDescriptor (T k).2.2.1 = some (ty0 k)) ∧ (∀ a, a < N → ∀ b, b < N → a ≠ b → (T a).2.1 ≠ (T b).2.1) ∧ ty0 f = ty ∧ (T f).2.2.2 = fin ∧ (fin = true → (T f).1 = own)
theorem r_getf {X : k_X} {own : String} {cc : ByteArray} {nL : Nat} (h : k_Ok X own cc nL) {σ : k_S} {k n pc : Nat} {L : List (Option k_AV)} {st : List k_AV} {l i f ci N idx : Nat} (hF : k_F own idx ci N f) (hs : k_sch l = .inl (ci, N)) (hl : k_isL l = false) (hf : f < N) (d : decode cc pc = .ok (.getfield idx, 3)) (v : k_AV) (hv : ∀ A : k_A, k_fv A σ l i f = k_c A v) (hvo : (∀ j, 3 ≤ k_kd l f → k_P σ l i f = some j → j < k_N σ (k_kd l f - 3)) → k_ok σ v) (kk : k_W X σ k n (pc + 3) L (v :: st)) : k_W X σ k n pc L (k_p l i :: st) := by
  obtain ⟨p, la, e, R, s, m, args, below, meth, c, Q, G, A0, σ0⟩ := X
  intro A E H locs ls hR hE hok hos hS hlc
  obtain ⟨hx, hb, -, hown, hts, hKS, -, -⟩ := h
  obtain ⟨C, T, hc, hfN, hw, hlink⟩ := hF
  have hi : i < k_N σ l := hos.head
  have hat := hR.1 l i hl hi
  unfold k_at at hat
  rw [hs] at hat
  obtain ⟨cell, q1, q2, q3, q4⟩ := hat
  obtain ⟨hSl, hfc, kC, hkC, hkind⟩ := hKS.1.1 ci _ hc
  obtain ⟨cf, kf, fi, fd, hfi, hsl⟩ := hSl f hfN
  refine W.getf hx hb hown (hts _ hlink) hfi (u_facts hfc hkC (u_lays hts hw hfN) hfi).1 q1 (by rw [q3]; exact fun h => by cases h) (v := k_c A v) ?_ rfl rfl d (kk A E H locs ls hR hE hok (hos.tail.cons (hvo (fun j h1 h2 => hR.2.2.2.1 l i f j hi h1 h2))) hS hlc)
  rw [hsl, q4 f hf, hv]
theorem r_getI {X : k_X} {own : String} {cc : ByteArray} {nL : Nat} (h : k_Ok X own cc nL) {σ : k_S} {k n pc : Nat} {L : List (Option k_AV)} {st : List k_AV} {l i f ci N idx : Nat} (hF : k_F own idx ci N f) (d : decode cc pc = .ok (.getfield idx, 3)) (hs : k_sch l = .inl (ci, N)) (hl : k_isL l = false) (hf : f < N) (hk : k_kd l f = 0) (kk : k_W X σ k n (pc + 3) L (k_i (k_I σ l i f) :: st)) : k_W X σ k n pc L (k_p l i :: st) :=
  r_getf h hF hs hl hf d (k_i (k_I σ l i f)) (fun A => by unfold k_fv; rw [hk]; rfl) (fun _ => trivial) kk
theorem r_getJ {X : k_X} {own : String} {cc : ByteArray} {nL : Nat} (h : k_Ok X own cc nL) {σ : k_S} {k n pc : Nat} {L : List (Option k_AV)} {st : List k_AV} {l i f ci N idx : Nat} (hF : k_F own idx ci N f) (d : decode cc pc = .ok (.getfield idx, 3)) (hs : k_sch l = .inl (ci, N)) (hl : k_isL l = false) (hf : f < N) (hk : k_kd l f = 1) (kk : k_W X σ k n (pc + 3) L (k_l (k_J σ l i f) :: st)) : k_W X σ k n pc L (k_p l i :: st) :=
  r_getf h hF hs hl hf d (k_l (k_J σ l i f)) (fun A => by unfold k_fv; rw [hk]; rfl) (fun _ => trivial) kk
theorem r_getR {X : k_X} {own : String} {cc : ByteArray} {nL : Nat} (h : k_Ok X own cc nL) {σ : k_S} {k n pc : Nat} {L : List (Option k_AV)} {st : List k_AV} {l i f ci N idx u : Nat} (hF : k_F own idx ci N f) (d : decode cc pc = .ok (.getfield idx, 3)) (hs : k_sch l = .inl (ci, N)) (hl : k_isL l = false) (hf : f < N) (hk : k_kd l f = u + 3) {j : Nat} (hP : k_P σ l i f = some j) (kk : k_W X σ k n (pc + 3) L (k_p u j :: st)) : k_W X σ k n pc L (k_p l i :: st) :=
  r_getf h hF hs hl hf d (k_p u j) (fun A => by unfold k_fv; rw [hk, hP]; rfl) (fun q => by
    have := q j (by rw [hk]; omega) hP
    rw [hk] at this
    exact this) kk
theorem r_getN {X : k_X} {own : String} {cc : ByteArray} {nL : Nat} (h : k_Ok X own cc nL) {σ : k_S} {k n pc : Nat} {L : List (Option k_AV)} {st : List k_AV} {l i f ci N idx u : Nat} (hF : k_F own idx ci N f) (d : decode cc pc = .ok (.getfield idx, 3)) (hs : k_sch l = .inl (ci, N)) (hl : k_isL l = false) (hf : f < N) (hk : k_kd l f = u + 3) (hP : k_P σ l i f = none) (kk : k_W X σ k n (pc + 3) L (k_n :: st)) : k_W X σ k n pc L (k_p l i :: st) :=
  r_getf h hF hs hl hf d k_n (fun A => by unfold k_fv; rw [hk, hP]; rfl) (fun _ => trivial) kk
/-- a write of field f of (l, i): the state σ' has v there, and all else as it was -/
theorem r_putf {X : k_X} {own : String} {cc : ByteArray} {nL : Nat} (h : k_Ok X own cc nL) {σ σ' : k_S} {k n pc : Nat} {L : List (Option k_AV)} {st : List k_AV} {l i f ci N idx : Nat} {ty : FieldType} {fin : Bool} (hF : k_FP own idx ci N f ty fin) (hfin : fin = true → X.2.2.2.2.2.2.2.2.1.name = "<init>") (hs : k_sch l = .inl (ci, N)) (hl : k_isL l = false) (hf : f < N) (d : decode cc pc = .ok (.putfield idx, 3)) (v : k_AV)
    (hN : k_N σ' = k_N σ) (hZ : k_Z σ' = k_Z σ) (hv : ∀ A : k_A, k_fv A σ' l i f = k_c A v) (hvo : ∀ A : k_A, narrow ty (k_c A v) = k_c A v ∧ fits ty (k_c A v) = true)
    (hsame : ∀ l' i' k, ¬ (l' = l ∧ i' = i ∧ k = f) → k_I σ' l' i' k = k_I σ l' i' k ∧ k_J σ' l' i' k = k_J σ l' i' k ∧ k_D σ' l' i' k = k_D σ l' i' k ∧ k_P σ' l' i' k = k_P σ l' i' k)
    (hp : k_ok σ v → ∀ j, 3 ≤ k_kd l f → k_P σ' l i f = some j → j < k_N σ (k_kd l f - 3)) (hff : k_fit (k_ty l f) (k_I σ l i f) → k_fit (k_ty l f) (k_I σ' l i f))
    (kk : k_W X σ' k n (pc + 3) L st) : k_W X σ k n pc L (v :: k_p l i :: st) := by
  obtain ⟨p, la, e, R, s, m, args, below, meth, c, Q, G, A0, σ0⟩ := X
  intro A E H locs ls hR hE hok hos hS hlc
  obtain ⟨hx, hb, -, hown, hts, hKS, -, -⟩ := h
  obtain ⟨C, T, ty0, hc, hfN, hw, hlink, hty, hnm, hty0, hfi0, hdecl⟩ := hF
  have hi : i < k_N σ l := hos.tail.head
  have hat := hR.1 l i hl hi
  unfold k_at at hat
  rw [hs] at hat
  obtain ⟨cell, q1, q2, q3, q4⟩ := hat
  obtain ⟨hSl, hfc, kC, hkC, hkind⟩ := hKS.1.1 ci _ hc
  obtain ⟨cf, kf, fi, fd, hfi, hsl⟩ := hSl f hfN
  have hap := va_apart (own := own) hts hw ty0 hty hnm hKS.1 hc
  have hst := (u_facts hfc hkC (u_lays hts hw hfN) hfi).1
  have hd : parseFieldDescriptor (T f).2.2.1 = some ty := by rw [← hty0]; exact hty f hfN
  have hlt : fd.slot < cell.slots.size := by rw [hsl]; exact k2_hasslot (q4 f hf)
  have hvc := hvo A
  have fin2 : ∀ (H' : Heap), H'[A l i]? = some (cell.setSlot fd.slot (k_c A v)) → H'.size = H.size → (∀ q, q ≠ A l i → H'[q]? = H[q]?) → W p la e R s m args below meth c H' (locs ++ [⟨A l i, fd.slot⟩]) k n Q (F0 m (pc + 3) ls (st.map (k_c A))) := by
    intro H' e1 e2 e3
    have hE' : k_Ext A A σ σ' := fun l' i' h' => ⟨by rw [hN]; exact h', rfl⟩
    refine kk A E H' _ ls ?_ (hE.trans hE') (hok.ext hE') (hos.tail.tail.ext hE').1 (hS.put e2 e3 (hR.2.2.1 l i hi).1) hlc
    refine hR.put hKS.2.2.2.2.2.2.2.2.1 hl hi e3 e2 hN hZ ?_ (fun l' i' ne k' => hsame l' i' k' (fun q => ne ⟨q.1, q.2.1⟩)) (fun k' j hk' hP' => ?_) (fun k' => ?_)
    · unfold k_at
      rw [hs]
      refine ⟨_, e1, q2, q3, fun k' hk' => ?_⟩
      by_cases ek : k' = f
      · subst ek
        dsimp only
        rw [hv A]
        rw [← hsl]
        exact Cell.slots_setSlot_self _ hlt
      · rw [hsl, slot_ne _ _ (hap f k' hfN hk' (Ne.symm ek)), q4 k' hk', k_fv_congr (hsame l i k' (fun q => ek q.2.2))]
    · by_cases ek : k' = f
      · subst ek
        exact hp hos.head j hk' hP'
      · rw [(hsame l i k' (fun q => ek q.2.2)).2.2.2] at hP'
        exact hR.2.2.2.1 l i k' j hi hk' hP'
    · by_cases ek : k' = f
      · subst ek
        exact hff (hR.2.2.2.2.1 l i k' hi)
      · rw [(hsame l i k' (fun q => ek q.2.2)).1]
        exact hR.2.2.2.2.1 l i k' hi
  cases fin with
  | false =>
    have hlay := hts _ (hw _ (u_in_lay hfN))
    unfold u_lay at hlay
    rw [if_neg (by rw [hfi0]; decide)] at hlay
    have h6 := u_store hfc hkC hkind hlay hfi hd hvc.1 hvc.2
    exact W.putK hx hb (f := fd) ⟨hown, hts _ hlink, ⟨_, _, _, hfi⟩, hst⟩ (by rw [q2]; exact h6) q1 q3 hlt rfl rfl d fin2
  | true =>
    have hlay := hts _ (hw _ (u_in_lay hfN))
    unfold u_lay at hlay
    rw [if_pos hfi0] at hlay
    have hcf : m.cls = cf := by
      obtain ⟨_, _, c', _, _, _, -, -, hf', -, -, -, hown2, -⟩ := Cond.laysFinal_spec hlay
      have e1 : c' = cf := by have := hfi.symm.trans hf'; simp at this; exact this.1.symm
      rw [hdecl rfl] at hown2
      rw [← e1]
      exact Option.some.inj (hown.symm.trans hown2)
    have h6 := u_fits hfc hkC hkind (Or.inr hlay) hfi hd hvc.1 hvc.2
    exact W.putFinK hx hb hown (hts _ hlink) hfi hst hcf (hfin rfl) (by rw [q2]; exact h6) q1 q3 hlt rfl rfl d fin2
theorem r_putI {X : k_X} {own : String} {cc : ByteArray} {nL : Nat} (h : k_Ok X own cc nL) {σ : k_S} {k n pc : Nat} {L : List (Option k_AV)} {st : List k_AV} {l i f ci N idx : Nat} {ty : FieldType} {x : Int32} (hF : k_FP own idx ci N f ty false) (d : decode cc pc = .ok (.putfield idx, 3)) (hs : k_sch l = .inl (ci, N)) (hl : k_isL l = false) (hf : f < N) (hk : k_kd l f = 0) (ht : k_ty l f = ty) (hx : k_fit ty x) (kk : k_W X (k_uI σ l i f x) k n (pc + 3) L st) : k_W X σ k n pc L (k_i x :: k_p l i :: st) :=
  r_putf (σ' := k_uI σ l i f x) h hF (fun q => by cases q) hs hl hf d (k_i x) rfl rfl (fun A => by unfold k_fv; rw [hk]; show Value.int (k_up3 (k_I σ) l i f x l i f) = _; rw [k_up3_s]; rfl) (fun _ => hx) (fun l' i' k' ne => ⟨k_up3_n ne, rfl, rfl, rfl⟩) (fun _ j h3 => by omega) (fun _ => by rw [ht]; show k_fit ty (k_up3 (k_I σ) l i f x l i f); rw [k_up3_s]; exact hx) kk
theorem r_putIF {X : k_X} {own : String} {cc : ByteArray} {nL : Nat} (h : k_Ok X own cc nL) {σ : k_S} {k n pc : Nat} {L : List (Option k_AV)} {st : List k_AV} {l i f ci N idx : Nat} {ty : FieldType} {x : Int32} (hF : k_FP own idx ci N f ty true) (hin : X.2.2.2.2.2.2.2.2.1.name = "<init>") (d : decode cc pc = .ok (.putfield idx, 3)) (hs : k_sch l = .inl (ci, N)) (hl : k_isL l = false) (hf : f < N) (hk : k_kd l f = 0) (ht : k_ty l f = ty) (hx : k_fit ty x) (kk : k_W X (k_uI σ l i f x) k n (pc + 3) L st) : k_W X σ k n pc L (k_i x :: k_p l i :: st) :=
  r_putf (σ' := k_uI σ l i f x) h hF (fun _ => hin) hs hl hf d (k_i x) rfl rfl (fun A => by unfold k_fv; rw [hk]; show Value.int (k_up3 (k_I σ) l i f x l i f) = _; rw [k_up3_s]; rfl) (fun _ => hx) (fun l' i' k' ne => ⟨k_up3_n ne, rfl, rfl, rfl⟩) (fun _ j h3 => by omega) (fun _ => by rw [ht]; show k_fit ty (k_up3 (k_I σ) l i f x l i f); rw [k_up3_s]; exact hx) kk
theorem r_putJ {X : k_X} {own : String} {cc : ByteArray} {nL : Nat} (h : k_Ok X own cc nL) {σ : k_S} {k n pc : Nat} {L : List (Option k_AV)} {st : List k_AV} {l i f ci N idx : Nat} {x : Int64} (hF : k_FP own idx ci N f .long false) (d : decode cc pc = .ok (.putfield idx, 3)) (hs : k_sch l = .inl (ci, N)) (hl : k_isL l = false) (hf : f < N) (hk : k_kd l f = 1) (kk : k_W X (k_uJ σ l i f x) k n (pc + 3) L st) : k_W X σ k n pc L (k_l x :: k_p l i :: st) :=
  r_putf (σ' := k_uJ σ l i f x) h hF (fun q => by cases q) hs hl hf d (k_l x) rfl rfl (fun A => by unfold k_fv; rw [hk]; show Value.long (k_up3 (k_J σ) l i f x l i f) = _; rw [k_up3_s]; rfl) (fun _ => ⟨rfl, rfl⟩) (fun l' i' k' ne => ⟨rfl, k_up3_n ne, rfl, rfl⟩) (fun _ j h3 => by omega) (fun q => q) kk
theorem r_putR {X : k_X} {own : String} {cc : ByteArray} {nL : Nat} (h : k_Ok X own cc nL) {σ : k_S} {k n pc : Nat} {L : List (Option k_AV)} {st : List k_AV} {l i f ci N idx u j : Nat} {ty : FieldType} {fin : Bool} (hF : k_FP own idx ci N f ty fin) (hin : fin = true → X.2.2.2.2.2.2.2.2.1.name = "<init>") (d : decode cc pc = .ok (.putfield idx, 3)) (hs : k_sch l = .inl (ci, N)) (hl : k_isL l = false) (hf : f < N) (hk : k_kd l f = u + 3) (ht : ty.isReference = true) (kk : k_W X (k_uP σ l i f (some j)) k n (pc + 3) L st) : k_W X σ k n pc L (k_p u j :: k_p l i :: st) :=
  r_putf (σ' := k_uP σ l i f (some j)) h hF hin hs hl hf d (k_p u j) rfl rfl (fun A => by unfold k_fv; rw [hk]; show va_rf ((k_up3 (k_P σ) l i f (some j) l i f).map (A u)) = _; rw [k_up3_s]; rfl) (fun _ => by cases ty <;> first | exact ⟨rfl, rfl⟩ | (cases ht; done)) (fun l' i' k' ne => ⟨rfl, rfl, rfl, k_up3_n ne⟩) (fun ho j' h3 hP => by
    rw [show k_P (k_uP σ l i f (some j)) l i f = some j from k_up3_s] at hP
    cases hP
    rw [hk]
    exact ho) (fun q => q) kk
theorem r_putRN {X : k_X} {own : String} {cc : ByteArray} {nL : Nat} (h : k_Ok X own cc nL) {σ : k_S} {k n pc : Nat} {L : List (Option k_AV)} {st : List k_AV} {l i f ci N idx u : Nat} {ty : FieldType} {fin : Bool} (hF : k_FP own idx ci N f ty fin) (hin : fin = true → X.2.2.2.2.2.2.2.2.1.name = "<init>") (d : decode cc pc = .ok (.putfield idx, 3)) (hs : k_sch l = .inl (ci, N)) (hl : k_isL l = false) (hf : f < N) (hk : k_kd l f = u + 3) (ht : ty.isReference = true) (kk : k_W X (k_uP σ l i f none) k n (pc + 3) L st) : k_W X σ k n pc L (k_n :: k_p l i :: st) :=
  r_putf (σ' := k_uP σ l i f none) h hF hin hs hl hf d k_n rfl rfl (fun A => by unfold k_fv; rw [hk]; show va_rf ((k_up3 (k_P σ) l i f none l i f).map (A u)) = _; rw [k_up3_s]; rfl) (fun _ => by cases ty <;> first | exact ⟨rfl, rfl⟩ | (cases ht; done)) (fun l' i' k' ne => ⟨rfl, rfl, rfl, k_up3_n ne⟩) (fun ho j' h3 hP => by
    rw [show k_P (k_uP σ l i f none) l i f = none from k_up3_s] at hP
    cases hP) (fun q => q) kk
/-- the array (l, i) as a cell -/
theorem k_HR.arr {G : k_G} {A : k_A} {E : Nat → Nat} {σ : k_S} {H : Heap} {l i t N : Nat} (h : k_HR G A E σ H) (hs : k_sch l = .inr (t, N)) (hl : k_isL l = false) (hi : i < k_N σ l) : H[A l i]? = some (arrV (G.2.1 t) N (k_fv A σ l i)) := by
  have hat := h.1 l i hl hi
  unfold k_at at hat
  rw [hs] at hat
  exact hat
theorem k_arrT {G : k_G} {s : State} (h : va_K G.1 k_cl (k_tys G.2.1) s) {t : Nat} {ty : FieldType} (ht : (k_tys G.2.1)[t]? = some (G.2.1 t, ty)) (n : Nat) (z : Nat → Value) : s.isArrayOf (arrV (G.2.1 t) n z) ty := (h.2 t _ ht).1 n z
theorem k_ix {j : Int32} {t N : Nat} (hj : j = nI t) (ht : t < N) (hN : N < 2 ^ 31) : vp_in j N ∧ j.toNatClampNeg = t := by
  subst hj
  exact ⟨vp_in_nI ht hN, nI_clamp (by omega)⟩
