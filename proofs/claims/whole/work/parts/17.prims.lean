/-! ===== makings, casts, Math, the script ===== -/
theorem k_ty_3 (l k : Nat) : k_ty l k = .int ∨ k_ty l k = .char ∨ k_ty l k = .boolean := by
  unfold k_ty
  split <;> first | exact Or.inl rfl | exact Or.inr (Or.inl rfl) | exact Or.inr (Or.inr rfl) | skip
  · split
    · exact Or.inr (Or.inr rfl)
    · exact Or.inl rfl
  · split
    · exact Or.inr (Or.inl rfl)
    · split
      · exact Or.inr (Or.inr rfl)
      · exact Or.inl rfl
  · split
    · exact Or.inr (Or.inr rfl)
    · exact Or.inl rfl
def k_nA (A : k_A) (l i a : Nat) : k_A := fun l' i' => if l' = l ∧ i' = i then a else A l' i'
theorem k_nA_s {A : k_A} {l i a : Nat} : k_nA A l i a l i = a := if_pos ⟨rfl, rfl⟩
theorem k_nA_o {A : k_A} {l i a l' i' : Nat} (h : ¬ (l' = l ∧ i' = i)) : k_nA A l i a l' i' = A l' i' := if_neg h
theorem k_new_I {σ : k_S} {l l' i' k' : Nat} (h : ¬ (l' = l ∧ i' = k_N σ l)) : k_I (k_new σ l) l' i' k' = k_I σ l' i' k' := if_neg h
theorem k_new_J {σ : k_S} {l l' i' k' : Nat} (h : ¬ (l' = l ∧ i' = k_N σ l)) : k_J (k_new σ l) l' i' k' = k_J σ l' i' k' := if_neg h
theorem k_new_D {σ : k_S} {l l' i' k' : Nat} (h : ¬ (l' = l ∧ i' = k_N σ l)) : k_D (k_new σ l) l' i' k' = k_D σ l' i' k' := if_neg h
theorem k_new_P {σ : k_S} {l l' i' k' : Nat} (h : ¬ (l' = l ∧ i' = k_N σ l)) : k_P (k_new σ l) l' i' k' = k_P σ l' i' k' := if_neg h
theorem k_new_I0 {σ : k_S} {l k' : Nat} : k_I (k_new σ l) l (k_N σ l) k' = 0 := if_pos ⟨rfl, rfl⟩
theorem k_new_J0 {σ : k_S} {l k' : Nat} : k_J (k_new σ l) l (k_N σ l) k' = 0 := if_pos ⟨rfl, rfl⟩
theorem k_new_D0 {σ : k_S} {l k' : Nat} : k_D (k_new σ l) l (k_N σ l) k' = 0 := if_pos ⟨rfl, rfl⟩
theorem k_new_P0 {σ : k_S} {l k' : Nat} : k_P (k_new σ l) l (k_N σ l) k' = none := if_pos ⟨rfl, rfl⟩
theorem k_new_N {σ : k_S} {l l' : Nat} : k_N (k_new σ l) l' = if l' = l then k_N σ l + 1 else k_N σ l' := rfl
theorem k_new_Z {σ : k_S} {l l' : Nat} (h : ¬ l' = l) : k_Z (k_new σ l) l' = k_Z σ l' := if_neg h
theorem k_HR.new {G : k_G} {A : k_A} {E : Nat → Nat} {σ : k_S} {H H1 : Heap} {l : Nat} (h : k_HR G A E σ H) (hB : G.2.2.2.1 < G.2.2.1) (hBs : G.2.2.1 ≤ H.size) (hl : k_isL l = false) (hz : H1.size = H.size + 1) (hq : ∀ q : Nat, q < H.size → H1[q]? = H[q]?)
    (hat : k_at G (k_nA A l (k_N σ l) H.size) (k_new σ l) l (k_N σ l) H1) : k_HR G (k_nA A l (k_N σ l) H.size) E (k_new σ l) H1 ∧ k_Ext A (k_nA A l (k_N σ l) H.size) σ (k_new σ l) := by
  obtain ⟨c1, c2, c3, c4, c5, c6⟩ := h
  have cs : ∀ l' i', i' < k_N (k_new σ l) l' → (l' = l ∧ i' = k_N σ l) ∨ (i' < k_N σ l' ∧ ¬ (l' = l ∧ i' = k_N σ l)) := by
    intro l' i' h'
    rw [k_new_N] at h'
    by_cases e : l' = l
    · subst e
      rw [if_pos rfl] at h'
      by_cases e2 : i' = k_N σ l'
      · exact Or.inl ⟨rfl, e2⟩
      · exact Or.inr ⟨by omega, fun q => e2 q.2⟩
    · rw [if_neg e] at h'
      exact Or.inr ⟨h', fun q => e q.1⟩
  have mono : ∀ l', k_N σ l' ≤ k_N (k_new σ l) l' := by
    intro l'
    rw [k_new_N]
    split
    · subst_vars; omega
    · exact Nat.le_refl _
  have hfv : ∀ l' i' k, i' < k_N σ l' → ¬ (l' = l ∧ i' = k_N σ l) → k_fv (k_nA A l (k_N σ l) H.size) (k_new σ l) l' i' k = k_fv A σ l' i' k := by
    intro l' i' k hi' ne
    unfold k_fv
    rw [k_new_I ne, k_new_J ne, k_new_D ne, k_new_P ne]
    split <;> try rfl
    next L hk =>
      cases hP : k_P σ l' i' k with
      | none => rfl
      | some j =>
        have := c4 l' i' k j hi' (by omega) hP
        rw [hk] at this
        show Value.ref _ = Value.ref _
        rw [k_nA_o (fun q => by rw [q.1, q.2] at this; exact Nat.lt_irrefl _ this)]
  refine ⟨⟨fun l' i' hl' hi' => ?_, fun l1 i1 l2 i2 h1 h2 e => ?_, fun l' i' hi' => ?_, fun l' i' k j hi' hk hP => ?_, fun l' i' k hi' => ?_, fun l' hl' hn => ?_⟩, fun l' i' hi' => ?_⟩
  · rcases cs l' i' hi' with ⟨rfl, rfl⟩ | ⟨h1, h2⟩
    · exact hat
    · exact (c1 l' i' hl' h1).kept (k_nA_o h2) (hq _ (c3 l' i' h1).2) (fun k => hfv l' i' k h1 h2)
  · rcases cs l1 i1 h1 with ⟨rfl, rfl⟩ | ⟨a1, a2⟩ <;> rcases cs l2 i2 h2 with ⟨rfl, rfl⟩ | ⟨b1, b2⟩
    · exact ⟨rfl, rfl⟩
    · rw [k_nA_s, k_nA_o b2] at e
      have := (c3 l2 i2 b1).2
      omega
    · rw [k_nA_s, k_nA_o a2] at e
      have := (c3 l1 i1 a1).2
      omega
    · rw [k_nA_o a2, k_nA_o b2] at e
      exact c2 l1 i1 l2 i2 a1 b1 e
  · rcases cs l' i' hi' with ⟨rfl, rfl⟩ | ⟨h1, h2⟩
    · rw [k_nA_s]
      omega
    · rw [k_nA_o h2, hz]
      have := c3 l' i' h1
      omega
  · rcases cs l' i' hi' with ⟨rfl, rfl⟩ | ⟨h1, h2⟩
    · rw [k_new_P0] at hP
      cases hP
    · rw [k_new_P h2] at hP
      exact Nat.lt_of_lt_of_le (c4 l' i' k j h1 hk hP) (mono _)
  · rcases cs l' i' hi' with ⟨rfl, rfl⟩ | ⟨h1, h2⟩
    · rw [k_new_I0]
      exact k_fit_0 _ (k_ty_3 _ _)
    · rw [k_new_I h2]
      exact c5 l' i' k h1
  · have ne : l' ≠ l := fun e => by rw [e, hl] at hl'; cases hl'
    have hn2 : 0 < k_N σ l' := by
      rw [k_new_N, if_neg ne] at hn
      exact hn
    obtain ⟨d1, mc, cap, d2, d3, d4, d5, d6⟩ := c6 l' hl' hn2
    have ne2 : ¬ (l' = l ∧ 0 = k_N σ l) := fun q => ne q.1
    have hE : E l' < H.size := (Array.getElem?_eq_some_iff.mp d3).1
    refine ⟨by rw [k_new_N, if_neg ne]; exact d1, mc, cap, ?_, ?_, by rw [k_new_Z ne]; exact d4, by rw [k_new_Z ne]; exact d5, ?_⟩
    · rw [k_nA_o ne2, k_new_Z ne]
      exact d2.kept (hq _ (c3 l' 0 hn2).2)
    · rw [hq _ hE, d3, k_new_Z ne]
      congr 2
      funext j
      rw [k_new_P ne2]
      by_cases hj : j < k_Z σ l'
      · rw [if_pos hj, if_pos hj]
        cases hP : k_P σ l' 0 j with
        | none => rfl
        | some z =>
          show Value.ref _ = Value.ref _
          have hkd : k_kd l' j = l' - 10 + 3 := by
            simp only [k_isL, Bool.and_eq_true, Nat.ble_eq] at hl'
            have : l' = 12 ∨ l' = 13 ∨ l' = 14 ∨ l' = 15 ∨ l' = 16 ∨ l' = 17 := by omega
            rcases this with rfl | rfl | rfl | rfl | rfl | rfl <;> rfl
          have := c4 l' 0 j z hn2 (by rw [hkd]; omega) hP
          rw [hkd, Nat.add_sub_cancel] at this
          rw [k_nA_o (fun q => by rw [q.1, q.2] at this; exact Nat.lt_irrefl _ this)]
      · rw [if_neg hj, if_neg hj]
    · rcases d6 with d6 | ⟨e1, e2, e3, e4⟩
      · exact Or.inl d6
      · refine Or.inr ⟨e1, e2, fun l2 i2 h2 => ?_, fun l2 hl2 hn3 hne => ?_⟩
        · rcases cs l2 i2 h2 with ⟨rfl, rfl⟩ | ⟨b1, b2⟩
          · rw [k_nA_s]
            omega
          · rw [k_nA_o b2]
            exact e3 l2 i2 b1
        · refine e4 l2 hl2 ?_ hne
          have ne3 : l2 ≠ l := fun e => by rw [e, hl] at hl2; cases hl2
          rw [k_new_N, if_neg ne3] at hn3
          exact hn3
  · refine ⟨Nat.lt_of_lt_of_le hi' (mono l'), k_nA_o (fun q => ?_)⟩
    rw [q.1, q.2] at hi'
    exact Nat.lt_irrefl _ hi'
/-- the default of a place -/
def k_dv (kd : Nat) : Value := match kd with
  | 0 => .int 0
  | 1 => .long 0
  | 2 => .double 0
  | _ => .null
theorem k_fv_new {A : k_A} {σ : k_S} {l k : Nat} : k_fv A (k_new σ l) l (k_N σ l) k = k_dv (k_kd l k) := by
  unfold k_fv k_dv
  rw [k_new_I0, k_new_J0, k_new_D0, k_new_P0]
  generalize k_kd l k = kd
  match kd with
  | 0 => rfl
  | 1 => rfl
  | 2 => rfl
  | _ + 3 => rfl
/-- what 'new C' needs of the tables, for things of label l -/
def k_Nw (own : String) (idx l ci N : Nat) : Prop := ∃ (C : String) (T : u_T) (ty0 : Nat → FieldType), k_sch l = .inl (ci, N) ∧ k_isL l = false ∧ k_cl[ci]? = some (C, T, N) ∧ (∀ w ∈ u_ws C T N, w ∈ k_Tb) ∧ Cond.classLink own idx C ∈ k_Tb ∧ Cond.instantiable C N ∈ k_Tb ∧ Cond.initialized C ∈ k_Tb ∧
  (∀ k, k < N → parseFieldDescriptor (T k).2.2.1 = some (ty0 k)) ∧ ∀ k, k < N → defaultValue (ty0 k) = k_dv (k_kd l k)
theorem r_new {X : k_X} {own : String} {cc : ByteArray} {nL : Nat} (h : k_Ok X own cc nL) {la : Launch} {G : k_G} {σ0 : k_S} {rm0 : Room} {nm : String} (hMe : k_Me X la G σ0 rm0 nm) {σ : k_S} {k n pc : Nat} {L : List (Option k_AV)} {st : List k_AV} {idx ci N : Nat} (l : Nat) (hN : k_Nw own idx l ci N) (d : decode cc pc = .ok (.new idx, 3)) (hr : k + 1 ≤ rm0.cells ∧ n + N ≤ rm0.slots)
    (kk : k_W X (k_new σ l) (k + 1) (n + N) (pc + 3) L (k_p l (k_N σ l) :: st)) : k_W X σ k n pc L st := by
  obtain ⟨p, la', e, R, s, m, args, below, meth, c, Q, G', A0, σ0'⟩ := X
  obtain ⟨rfl, rfl, rfl, rfl, -⟩ := hMe
  intro A E H locs ls hR hE hok hos hS hlc
  obtain ⟨hx, hb, hml, hown, hts, hKS, hlocks, hfl⟩ := h
  obtain ⟨C, T, ty0, n1, n2, n3, n4, n5, n6, n7, n8, n9⟩ := hN
  have hKn := hKS.1.1 ci _ n3
  refine W.newcK hx hb hown (hts _ n5) (hts _ n6) (hts _ n7) rfl d hr.1 hr.2 hKn.2.1 rfl fun H1 kC hkC e1 z1 o1 => ?_
  have hBs : G'.2.2.1 ≤ H.size := Nat.le_trans hKS.2.1 hS.1
  obtain ⟨hR', hx'⟩ := hR.new (H1 := H1) hKS.2.2.2.2.2.2.2.2.1 hBs n2 z1 o1 (by
    unfold k_at
    rw [n1]
    dsimp only
    rw [k_nA_s]
    exact (u_born ty0 hts n4 hKn hkC e1 n8).to (fun j hj => by rw [k_fv_new]; exact n9 j hj))
  have h9 := kk _ E H1 locs ls hR' (hE.trans hx') (hok.ext hx') (k_oks.cons (by show k_N σ l < k_N (k_new σ l) l; rw [k_new_N, if_pos rfl]; omega) (hos.ext hx').1) ⟨Nat.le_trans hS.1 (by omega), fun q q1 q2 => (o1 q (Nat.lt_of_lt_of_le q1 hS.1)).trans (hS.2.1 q q1 q2), hS.2.2⟩ (hlc.ext hx' hok)
  rw [List.map_cons, (hos.ext hx').2] at h9
  have e9 : k_c (k_nA A l (k_N σ l) H.size) (k_p l (k_N σ l)) = .ref H.size := by show Value.ref _ = _; rw [k_nA_s]
  rw [e9] at h9
  exact h9
theorem r_newarr {X : k_X} {own : String} {cc : ByteArray} {nL : Nat} (h : k_Ok X own cc nL) {la : Launch} {G : k_G} {σ0 : k_S} {rm0 : Room} {nm : String} (hMe : k_Me X la G σ0 rm0 nm) {σ : k_S} {k n pc : Nat} {L : List (Option k_AV)} {st : List k_AV} {atype : ArrayType} {t N : Nat} {x : Int32} (l : Nat) (d : decode cc pc = .ok (.newarray atype, 2)) (hw : Cond.arrayClass (newarray.typeOf atype) ∈ k_Tb) (hs : k_sch l = .inr (t, N)) (hl : k_isL l = false)
    (ht : ∀ G : k_G, (k_tys G.2.1)[t]? = some (G.2.1 t, newarray.typeOf atype)) (hv : ∀ k, defaultValue (newarray.typeOf atype) = k_dv (k_kd l k)) (hrt : ∀ (U : State) (cA : ClassId), va_RA U cA (newarray.typeOf atype) → U.vm.findClass ("[" ++ (newarray.typeOf atype).toString) = some cA) (hx0 : x = nI N) (hN : N < 1000) (hby : N * componentBytes (newarray.typeOf atype) ≤ 536870912) (hr : k + 1 ≤ rm0.cells ∧ n + N ≤ rm0.slots)
    (kk : k_W X (k_new σ l) (k + 1) (n + N) (pc + 2) L (k_p l (k_N σ l) :: st)) : k_W X σ k n pc L (k_i x :: st) := by
  obtain ⟨p, la', e, R, s, m, args, below, meth, c, Q, G', A0, σ0'⟩ := X
  obtain ⟨rfl, rfl, rfl, rfl, -⟩ := hMe
  intro A E H locs ls hR hE hok hos hS hlc
  obtain ⟨hx, hb, hml, hown, hts, hKS, hlocks, hfl⟩ := h
  subst hx0
  refine va_newaK hx hb (hts _ hw) rfl d rfl (nI_pos (by omega)) (nI_clamp (by omega)) hby hr.1 hr.2 rfl fun H1 cA e1 z1 o1 hA hc => ?_
  have ec : cA = G'.2.1 t := Option.some.inj (hc.symm.trans (hrt s _ (hKS.1.2 t _ (ht G')).2))
  subst ec
  have hBs : G'.2.2.1 ≤ H.size := Nat.le_trans hKS.2.1 hS.1
  obtain ⟨hR', hx'⟩ := hR.new (H1 := H1) hKS.2.2.2.2.2.2.2.2.1 hBs hl z1 o1 (by
    unfold k_at
    rw [hs]
    dsimp only
    rw [k_nA_s, e1]
    congr 2
    funext j
    rw [k_fv_new]
    exact hv j)
  have h9 := kk _ E H1 locs ls hR' (hE.trans hx') (hok.ext hx') (k_oks.cons (by show k_N σ l < k_N (k_new σ l) l; rw [k_new_N, if_pos rfl]; omega) (hos.tail.ext hx').1) ⟨Nat.le_trans hS.1 (by omega), fun q q1 q2 => (o1 q (Nat.lt_of_lt_of_le q1 hS.1)).trans (hS.2.1 q q1 q2), hS.2.2⟩ (hlc.ext hx' hok)
  rw [List.map_cons, (hos.tail.ext hx').2] at h9
  have e9 : k_c (k_nA A l (k_N σ l) H.size) (k_p l (k_N σ l)) = .ref H.size := by show Value.ref _ = _; rw [k_nA_s]
  rw [e9] at h9
  exact h9
theorem r_objInit {X : k_X} {own : String} {cc : ByteArray} {nL : Nat} (h : k_Ok X own cc nL) {la : Launch} {G : k_G} {σ0 : k_S} {rm0 : Room} {nm : String} (hMe : k_Me X la G σ0 rm0 nm) {σ : k_S} {k n pc : Nat} {L : List (Option k_AV)} {idx : Nat} {q : Nat × Nat} (hl : Cond.methodLink own idx Lib.objectInit ∈ k_Tb) (hi : Cond.instanceMethod Lib.objectInit ∈ k_Tb) (hc : Cond.code Lib.objectInit ⟨#[0xb1]⟩ 1 none ∈ k_Tb) (d : decode cc pc = .ok (.invokespecial idx, 3)) (hr : 1 ≤ rm0.frames ∧ 12 ≤ rm0.locals)
    (kk : k_W X σ k n (pc + 3) L []) : k_W X σ k n pc L [.inr q] := by
  obtain ⟨p, la', e, R, s, m, args, below, meth, c, Q, G', A0, σ0'⟩ := X
  obtain ⟨rfl, rfl, rfl, rfl, -⟩ := hMe
  intro A E H locs ls hR hE hok hos hS hlc
  obtain ⟨hx, hb, hml, hown, hts, hKS, hlocks, hfl⟩ := h
  exact W.objInit hx hb hown (hts _ hl) (hts _ hi) (hts _ hc) rfl hlc.1 rfl d hr.1 (by show 2 * 0 + 0 + 12 ≤ _; omega) (kk A E H locs ls hR hE hok (fun v hv => nomatch hv) hS hlc)
/-- the words of Math.max, Math.min -/
def k_Mm (own : String) (idx : Nat) (y : MethodName) (cy : ByteArray) : Prop := Cond.methodLink own idx y ∈ k_Tb ∧ Cond.static y ∈ k_Tb ∧ Cond.initialized "java/lang/Math" ∈ k_Tb ∧ Cond.code y cy 2 (some .int) ∈ k_Tb
theorem r_max {X : k_X} {own : String} {cc : ByteArray} {nL : Nat} (h : k_Ok X own cc nL) {la : Launch} {G : k_G} {σ0 : k_S} {rm0 : Room} {nm : String} (hMe : k_Me X la G σ0 rm0 nm) {σ : k_S} {k n pc : Nat} {L : List (Option k_AV)} {st : List k_AV} {idx : Nat} {x y : Int32} (hw : k_Mm own idx Lib.Math.max.name Lib.Math.max.code) (d : decode cc pc = .ok (.invokestatic idx, 3)) (hr : 1 ≤ rm0.frames ∧ 2 * st.length + 13 ≤ rm0.locals ∧ k ≤ rm0.cells ∧ n ≤ rm0.slots)
    (kk : k_W X σ k n (pc + 3) L (k_i (if x < y then y else x) :: st)) : k_W X σ k n pc L (k_i y :: k_i x :: st) := by
  obtain ⟨p, la', e, R, s, m, args, below, meth, c, Q, G', A0, σ0'⟩ := X
  obtain ⟨rfl, rfl, rfl, rfl, -⟩ := hMe
  intro A E H locs ls hR hE hok hos hS hlc
  obtain ⟨hx, hb, hml, hown, hts, hKS, hlocks, hfl⟩ := h
  have := k_sum (A := A) st
  exact va_mmax hx hb hlc.1.symm hown (hts _ hw.1) (hts _ hw.2.1) (hts _ hw.2.2.1) (hts _ hw.2.2.2) hr.1 (by omega) hr.2.2.1 hr.2.2.2 d (kk A E H locs ls hR hE hok (hos.tail.tail.cons trivial) hS hlc)
theorem r_min {X : k_X} {own : String} {cc : ByteArray} {nL : Nat} (h : k_Ok X own cc nL) {la : Launch} {G : k_G} {σ0 : k_S} {rm0 : Room} {nm : String} (hMe : k_Me X la G σ0 rm0 nm) {σ : k_S} {k n pc : Nat} {L : List (Option k_AV)} {st : List k_AV} {idx : Nat} {x y : Int32} (hw : k_Mm own idx Lib.Math.min.name Lib.Math.min.code) (d : decode cc pc = .ok (.invokestatic idx, 3)) (hr : 1 ≤ rm0.frames ∧ 2 * st.length + 13 ≤ rm0.locals ∧ k ≤ rm0.cells ∧ n ≤ rm0.slots)
    (kk : k_W X σ k n (pc + 3) L (k_i (if y < x then y else x) :: st)) : k_W X σ k n pc L (k_i y :: k_i x :: st) := by
  obtain ⟨p, la', e, R, s, m, args, below, meth, c, Q, G', A0, σ0'⟩ := X
  obtain ⟨rfl, rfl, rfl, rfl, -⟩ := hMe
  intro A E H locs ls hR hE hok hos hS hlc
  obtain ⟨hx, hb, hml, hown, hts, hKS, hlocks, hfl⟩ := h
  have := k_sum (A := A) st
  exact va_mmin hx hb hlc.1.symm hown (hts _ hw.1) (hts _ hw.2.1) (hts _ hw.2.2.1) (hts _ hw.2.2.2) hr.1 (by omega) hr.2.2.1 hr.2.2.2 d (kk A E H locs ls hR hE hok (hos.tail.tail.cons trivial) hS hlc)
theorem r_cast1 {X : k_X} {own : String} {cc : ByteArray} {nL : Nat} (h : k_Ok X own cc nL) {σ : k_S} {k n pc : Nat} {L : List (Option k_AV)} {st : List k_AV} {idx l i ci N : Nat} {C : String} {T : u_T} {N' : Nat} (d : decode cc pc = .ok (.checkcast idx, 3)) (hw : Cond.classLink own idx C ∈ k_Tb) (hs : k_sch l = .inl (ci, N)) (hl : k_isL l = false) (hc : k_cl[ci]? = some (C, T, N')) (kk : k_W X σ k n (pc + 3) L (k_p l i :: st)) : k_W X σ k n pc L (k_p l i :: st) := by
  obtain ⟨p, la', e, R, s, m, args, below, meth, c, Q, G', A0, σ0'⟩ := X
  intro A E H locs ls hR hE hok hos hS hlc
  obtain ⟨hx, hb, hml, hown, hts, hKS, hlocks, hfl⟩ := h
  have hi : i < k_N σ l := hos.head
  have hat := hR.1 l i hl hi
  unfold k_at at hat
  rw [hs] at hat
  obtain ⟨cell, q1, q2, q3, q4⟩ := hat
  have hKn := (hKS.1.1 ci _ hc).2
  exact va_castS hx hb hown (hts _ hw) hKn ⟨cell, q1, by rw [q3]; rfl, by rw [q2]; exact hKn.1⟩ d (kk A E H locs ls hR hE hok hos hS hlc)
theorem r_lcmp {X : k_X} {own : String} {cc : ByteArray} {nL : Nat} (h : k_Ok X own cc nL) {σ : k_S} {k n pc : Nat} {L : List (Option k_AV)} {st : List k_AV} {x y : Int64} (d : decode cc pc = .ok (.lcmp, 1)) (kk : k_W X σ k n (pc + 1) L (k_i (lg_cmp x y) :: st)) : k_W X σ k n pc L (k_l y :: k_l x :: st) := by
  obtain ⟨p, la', e, R, s, m, args, below, meth, c, Q, G', A0, σ0'⟩ := X
  intro A E H locs ls hR hE hok hos hS hl
  exact W.lcmp h.1 h.2.1 d (kk A E H locs ls hR hE hok (hos.tail.tail.cons trivial) hS hl)
theorem r_dcmp {X : k_X} {own : String} {cc : ByteArray} {nL : Nat} (h : k_Ok X own cc nL) {σ : k_S} {k n pc : Nat} {L : List (Option k_AV)} {st : List k_AV} {x y : UInt64} {op : CmpOp} (d : decode cc pc = .ok (.dcmp op, 1)) (kk : k_W X σ k n (pc + 1) L (k_i (Op.cmpValue (FP.dcmp x y) op) :: st)) : k_W X σ k n pc L (k_d y :: k_d x :: st) := by
  obtain ⟨p, la', e, R, s, m, args, below, meth, c, Q, G', A0, σ0'⟩ := X
  intro A E H locs ls hR hE hok hos hS hl
  exact lv_dcmp h.1 h.2.1 d (kk A E H locs ls hR hE hok (hos.tail.tail.cons trivial) hS hl)
theorem r_fcmp {X : k_X} {own : String} {cc : ByteArray} {nL : Nat} (h : k_Ok X own cc nL) {σ : k_S} {k n pc : Nat} {L : List (Option k_AV)} {st : List k_AV} {x y : UInt32} {op : CmpOp} (d : decode cc pc = .ok (.fcmp op, 1)) (kk : k_W X σ k n (pc + 1) L (k_i (Op.cmpValue (FP.fcmp x y) op) :: st)) : k_W X σ k n pc L (k_f y :: k_f x :: st) := by
  obtain ⟨p, la', e, R, s, m, args, below, meth, c, Q, G', A0, σ0'⟩ := X
  intro A E H locs ls hR hE hok hos hS hl
  exact lv_fcmp h.1 h.2.1 d (kk A E H locs ls hR hE hok (hos.tail.tail.cons trivial) hS hl)
theorem r_ldc {X : k_X} {own : String} {cc : ByteArray} {nL : Nat} (h : k_Ok X own cc nL) {σ : k_S} {k n pc : Nat} {L : List (Option k_AV)} {st : List k_AV} {idx : Nat} {v : Int32} (d : decode cc pc = .ok (.ldc idx, 2)) (hw : Cond.constant own idx v ∈ k_Tb) (kk : k_W X σ k n (pc + 2) L (k_i v :: st)) : k_W X σ k n pc L st := by
  obtain ⟨p, la', e, R, s, m, args, below, meth, c, Q, G', A0, σ0'⟩ := X
  intro A E H locs ls hR hE hok hos hS hl
  exact lv_ldc h.1 h.2.1 h.2.2.2.1 (h.2.2.2.2.1 _ hw) d (kk A E H locs ls hR hE hok (hos.cons trivial) hS hl)
theorem r_ldcw {X : k_X} {own : String} {cc : ByteArray} {nL : Nat} (h : k_Ok X own cc nL) {σ : k_S} {k n pc : Nat} {L : List (Option k_AV)} {st : List k_AV} {idx : Nat} {v : Int32} (d : decode cc pc = .ok (.ldc_w idx, 3)) (hw : Cond.constant own idx v ∈ k_Tb) (kk : k_W X σ k n (pc + 3) L (k_i v :: st)) : k_W X σ k n pc L st := by
  obtain ⟨p, la', e, R, s, m, args, below, meth, c, Q, G', A0, σ0'⟩ := X
  intro A E H locs ls hR hE hok hos hS hl
  exact lv_ldcw h.1 h.2.1 h.2.2.2.1 (h.2.2.2.2.1 _ hw) d (kk A E H locs ls hR hE hok (hos.cons trivial) hS hl)
theorem r_iushr {X : k_X} {own : String} {cc : ByteArray} {nL : Nat} (h : k_Ok X own cc nL) {σ : k_S} {k n pc : Nat} {L : List (Option k_AV)} {st : List k_AV} {x y v : Int32} (d : decode cc pc = .ok (.iushr, 1)) (hv : (x.toUInt32 >>> (y.toUInt32 &&& Int32.toUInt32 31)).toInt32 = v) (kk : k_W X σ k n (pc + 1) L (k_i v :: st)) : k_W X σ k n pc L (k_i y :: k_i x :: st) := by
  obtain ⟨p, la', e, R, s, m, args, below, meth, c, Q, G', A0, σ0'⟩ := X
  intro A E H locs ls hR hE hok hos hS hl
  exact lv_iushr h.1 h.2.1 d hv (kk A E H locs ls hR hE hok (hos.tail.tail.cons trivial) hS hl)
/-- the law's script -/
theorem r_slen {X : k_X} {own : String} {cc : ByteArray} {nL : Nat} (h : k_Ok X own cc nL) {la : Launch} {G : k_G} {σ0 : k_S} {rm0 : Room} {nm : String} (hMe : k_Me X la G σ0 rm0 nm) {σ : k_S} {k n pc : Nat} {L : List (Option k_AV)} {st : List k_AV} {b Ln : Nat} {xs : Nat → Int32} (hX : va_X b Ln xs X.2.2.2.2.1 X.2.2.2.2.1.heap) (hbl : b < X.2.2.2.2.1.heap.size) (hbA : ¬ G.2.2.1 ≤ b) (d : decode cc pc = .ok (.arraylength, 1)) (kk : k_W X σ k n (pc + 1) L (k_i (nI Ln) :: st)) : k_W X σ k n pc L (k_r b :: st) := by
  obtain ⟨p, la', e, R, s, m, args, below, meth, c, Q, G', A0, σ0'⟩ := X
  obtain ⟨rfl, rfl, rfl, rfl, -⟩ := hMe
  intro A E H locs ls hR hE hok hos hS hl
  exact va_slen (A := fun q => G'.2.2.1 ≤ q) h.1 h.2.1 hX hbl hbA hS d (kk A E H locs ls hR hE hok (hos.tail.cons trivial) hS hl)
theorem r_sld {X : k_X} {own : String} {cc : ByteArray} {nL : Nat} (h : k_Ok X own cc nL) {la : Launch} {G : k_G} {σ0 : k_S} {rm0 : Room} {nm : String} (hMe : k_Me X la G σ0 rm0 nm) {σ : k_S} {k n pc : Nat} {L : List (Option k_AV)} {st : List k_AV} {b Ln y : Nat} {j : Int32} {xs : Nat → Int32} (hX : va_X b Ln xs X.2.2.2.2.1 X.2.2.2.2.1.heap) (hbl : b < X.2.2.2.2.1.heap.size) (hbA : ¬ G.2.2.1 ≤ b) (hj : j = nI y) (hy : y < Ln) (hL : Ln < 2 ^ 31) (d : decode cc pc = .ok (.iaload, 1)) (kk : k_W X σ k n (pc + 1) L (k_i (xs y) :: st)) : k_W X σ k n pc L (k_i j :: k_r b :: st) := by
  obtain ⟨p, la', e, R, s, m, args, below, meth, c, Q, G', A0, σ0'⟩ := X
  obtain ⟨rfl, rfl, rfl, rfl, -⟩ := hMe
  intro A E H locs ls hR hE hok hos hS hl
  obtain ⟨h1, h2⟩ := k_ix hj hy hL
  have h9 := kk A E H locs ls hR hE hok (hos.tail.tail.cons trivial) hS hl
  exact va_sld (A := fun q => G'.2.2.1 ≤ q) h.1 h.2.1 hX hbl hbA hS h1 d (by rw [h2]; exact h9)
