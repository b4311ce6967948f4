def k_nE (E : Nat → Nat) (l a : Nat) : Nat → Nat := fun l' => if l' = l then a else E l'
theorem k_HR.newL {G : k_G} {A : k_A} {E : Nat → Nat} {σ : k_S} {H H1 : Heap} {l b : Nat} (h : k_HR G A E σ H) (hB : G.2.2.2.1 < G.2.2.1) (hBs : G.2.2.1 ≤ H.size) (hl : k_isL l = true) (h0 : k_N σ l = 0) (hb : b = H.size) (hz : H1.size = H.size + 1) (hq : ∀ q : Nat, q < H.size → H1[q]? = H[q]?)
    (hob : t_OB b (G.1.1 0) 3 (G.1.2 0) H1 (vp_V [.int 0, .ref G.2.2.2.1, .int 0])) (he : H1[G.2.2.2.1]? = some G.2.2.2.2.2) : k_HR G (k_nA A l 0 b) (k_nE E l G.2.2.2.1) (k_new σ l) H1 ∧ k_Ext A (k_nA A l 0 b) σ (k_new σ l) := by
  obtain ⟨c1, c2, c3, c4, c5, c6⟩ := h
  have cs : ∀ l' i', i' < k_N (k_new σ l) l' → (l' = l ∧ i' = 0) ∨ (i' < k_N σ l' ∧ ¬ (l' = l ∧ i' = k_N σ l) ∧ ¬ (l' = l ∧ i' = 0)) := by
    intro l' i' h'
    rw [k_new_N] at h'
    by_cases e : l' = l
    · subst e
      rw [if_pos rfl] at h'
      exact Or.inl ⟨rfl, by omega⟩
    · rw [if_neg e] at h'
      exact Or.inr ⟨h', fun q => e q.1, fun q => e q.1⟩
  have mono : ∀ l', k_N σ l' ≤ k_N (k_new σ l) l' := by
    intro l'
    rw [k_new_N]
    split
    · subst_vars; omega
    · exact Nat.le_refl _
  have hfv : ∀ l' i' k, i' < k_N σ l' → ¬ (l' = l ∧ i' = k_N σ l) → k_fv (k_nA A l 0 b) (k_new σ l) l' i' k = k_fv A σ l' i' k := by
    intro l' i' k hi' ne
    unfold k_fv
    rw [k_new_I ne, k_new_J ne, k_new_D ne, k_new_P ne]
    split <;> try rfl
    next L hk =>
      cases hP : k_P σ l' i' k with
      | none => rfl
      | some j =>
        have := c4 l' i' k j hi' (by omega) hP
        rw [hk] at this
        show Value.ref _ = Value.ref _
        rw [k_nA_o (fun q => by rw [show L + 3 - 3 = L by omega, q.1, h0] at this; exact Nat.not_lt_zero _ this)]
  have hlk : ∀ k, k_kd l k = l - 10 + 3 := fun k => (k_isL_kd hl).1
  refine ⟨⟨fun l' i' hl' hi' => ?_, fun l1 i1 l2 i2 h1 h2 e => ?_, fun l' i' hi' => ?_, fun l' i' k j hi' hk hP => ?_, fun l' i' k hi' => ?_, fun l' hl' hn => ?_⟩, fun l' i' hi' => ?_⟩
  · rcases cs l' i' hi' with ⟨rfl, rfl⟩ | ⟨h1, h2, h3⟩
    · rw [hl] at hl'; cases hl'
    · exact (c1 l' i' hl' h1).kept (k_nA_o h3) (hq _ (c3 l' i' h1).2) (fun k => hfv l' i' k h1 h2)
  · rcases cs l1 i1 h1 with ⟨rfl, rfl⟩ | ⟨a1, a2, a3⟩ <;> rcases cs l2 i2 h2 with ⟨rfl, rfl⟩ | ⟨b1, b2, b3⟩
    · exact ⟨rfl, rfl⟩
    · rw [k_nA_s, k_nA_o b3] at e
      have := (c3 l2 i2 b1).2
      omega
    · rw [k_nA_s, k_nA_o a3] at e
      have := (c3 l1 i1 a1).2
      omega
    · rw [k_nA_o a3, k_nA_o b3] at e
      exact c2 l1 i1 l2 i2 a1 b1 e
  · rcases cs l' i' hi' with ⟨rfl, rfl⟩ | ⟨h1, h2, h3⟩
    · rw [k_nA_s]
      omega
    · rw [k_nA_o h3, hz]
      have := c3 l' i' h1
      omega
  · rcases cs l' i' hi' with ⟨rfl, rfl⟩ | ⟨h1, h2, h3⟩
    · rw [show k_P (k_new σ l') l' 0 k = none by have := k_new_P0 (σ := σ) (l := l') (k' := k); rw [h0] at this; exact this] at hP
      cases hP
    · rw [k_new_P h2] at hP
      exact Nat.lt_of_lt_of_le (c4 l' i' k j h1 hk hP) (mono _)
  · rcases cs l' i' hi' with ⟨rfl, rfl⟩ | ⟨h1, h2, h3⟩
    · rw [show k_I (k_new σ l') l' 0 k = 0 by have := k_new_I0 (σ := σ) (l := l') (k' := k); rw [h0] at this; exact this]
      exact k_fit_0 _ (k_ty_3 _ _)
    · rw [k_new_I h2]
      exact c5 l' i' k h1
  · by_cases ne : l' = l
    · subst ne
      have eZ : k_Z (k_new σ l') l' = 0 := if_pos rfl
      refine ⟨by rw [k_new_N, if_pos rfl, h0], 0, 0, ?_, ?_, by rw [eZ]; exact Nat.le_refl _, by omega, Or.inl ⟨rfl, if_pos rfl⟩⟩
      · rw [k_nA_s, eZ]
        show t_OB b _ _ _ _ (vp_V [.int 0, .ref (if l' = l' then _ else _), .int (nI 0)])
        rw [if_pos rfl]
        exact hob
      · show H1[if l' = l' then _ else _]? = _
        rw [if_pos rfl, he, k_av_0]
    · have hn2 : 0 < k_N σ l' := by
        rw [k_new_N, if_neg ne] at hn
        exact hn
      obtain ⟨d1, mc, cap, d2, d3, d4, d5, d6⟩ := c6 l' hl' hn2
      have ne2 : ¬ (l' = l ∧ 0 = k_N σ l) := fun q => ne q.1
      have ne3 : ¬ (l' = l ∧ 0 = 0) := fun q => ne q.1
      have hE : E l' < H.size := (Array.getElem?_eq_some_iff.mp d3).1
      have eE : k_nE E l G.2.2.2.1 l' = E l' := if_neg ne
      refine ⟨by rw [k_new_N, if_neg ne]; exact d1, mc, cap, ?_, ?_, by rw [k_new_Z ne]; exact d4, by rw [k_new_Z ne]; exact d5, ?_⟩
      · rw [k_nA_o ne3, k_new_Z ne, eE]
        exact d2.kept (hq _ (c3 l' 0 hn2).2)
      · rw [eE, hq _ hE, d3, k_new_Z ne]
        congr 2
        funext j
        rw [k_new_P ne2]
        by_cases hj : j < k_Z σ l'
        · rw [if_pos hj, if_pos hj]
          cases hP : k_P σ l' 0 j with
          | none => rfl
          | some z =>
            show Value.ref _ = Value.ref _
            have hkd : k_kd l' j = l' - 10 + 3 := (k_isL_kd hl').1
            have := c4 l' 0 j z hn2 (by rw [hkd]; omega) hP
            rw [hkd, Nat.add_sub_cancel] at this
            rw [k_nA_o (fun q => by rw [q.1, h0] at this; exact Nat.not_lt_zero _ this)]
        · rw [if_neg hj, if_neg hj]
      · rw [eE]
        rcases d6 with d6 | ⟨e1, e2, e3, e4⟩
        · exact Or.inl d6
        · refine Or.inr ⟨e1, e2, fun l2 i2 h2 => ?_, fun l2 hl2 hn3 hne => ?_⟩
          · rcases cs l2 i2 h2 with ⟨rfl, rfl⟩ | ⟨b1, b2, b3⟩
            · rw [k_nA_s]
              omega
            · rw [k_nA_o b3]
              exact e3 l2 i2 b1
          · by_cases ne4 : l2 = l
            · subst ne4
              show (if l2 = l2 then _ else _) ≠ _
              rw [if_pos rfl]
              omega
            · show (if l2 = l then _ else _) ≠ _
              rw [if_neg ne4]
              refine e4 l2 hl2 ?_ hne
              rw [k_new_N, if_neg ne4] at hn3
              exact hn3
  · refine ⟨Nat.lt_of_lt_of_le hi' (mono l'), k_nA_o (fun q => ?_)⟩
    rw [q.1, h0] at hi'
    exact Nat.not_lt_zero _ hi'
/-- new ArrayList() -/
theorem r_newList {X : k_X} {own : String} {cc : ByteArray} {nL : Nat} (h : k_Ok X own cc nL) {la : Launch} {G : k_G} {σ0 : k_S} {rm0 : Room} {nm : String} (hMe : k_Me X la G σ0 rm0 nm) {σ : k_S} {k n pc : Nat} {L : List (Option k_AV)} {st : List k_AV} {idx idx2 : Nat} (l : Nat) (hla : la.flags = flags0) (hl : k_isL l = true) (h0 : k_N σ l = 0) (hw : Cond.classLink own idx RJx4a65c ∈ k_Tb) (hw2 : k_ClI own idx2 yJx4a65c_init_da8c8 prog_29_method_2_code 1 0) (d : decode cc pc = .ok (.new idx, 3)) (d2 : decode cc (pc + 3) = .ok (.dup, 1)) (d3 : decode cc (pc + 3 + 1) = .ok (.invokespecial idx2, 3)) (hr : k + 1 ≤ rm0.cells ∧ n + 3 ≤ rm0.slots ∧ 3 + 1 ≤ rm0.frames ∧ 8 + (1 + 11) + 70 ≤ rm0.locals ∧ st.length ≤ 3)
    (kk : k_W X (k_new σ l) (k + 1) (n + 3) (pc + 3 + 1 + 3) L (k_p l 0 :: st)) : k_W X σ k n pc L st := by
  obtain ⟨p, la', e, R, s, m, args, below, meth, c, Q, G', A0, σ0'⟩ := X
  obtain ⟨rfl, rfl, rfl, rfl, -⟩ := hMe
  intro A E H locs ls hR hE hok hos hS hlc
  obtain ⟨hx, hb, hml, hown, hts, hKS, hlocks, hfl⟩ := h
  obtain ⟨hr1, hr2, hr3, hr4, hr5⟩ := hr
  have hKn := hKS.1.1 0 _ (rfl : k_cl[0]? = some (RJx4a65c, TJx4a65c, 3))
  have hBB := hKS.2.2.2.2.2.2.2.2.1
  refine W.newcK hx hb hown (hts _ hw) (hts _ wd_40) (hts _ wd_4) rfl d hr1 hr2 hKn.2.1 rfl fun H1 kC hkC e1 z1 o1 => ?_
  have hBs : G'.2.2.1 ≤ H.size := Nat.le_trans hKS.2.1 hS.1
  have hob1 : t_OB H.size (G'.1.1 0) 3 (G'.1.2 0) H1 (vp_V [.int 0, .null, .int 0]) := (u_born tyJx4a65c hts kw_0 hKn hkC e1 tyJx4a65c_ok).to (fun j hj => by
    match j, hj with
    | 0, _ => rfl
    | 1, _ => rfl
    | 2, _ => rfl)
  have hS1 : va_S (fun q => G'.2.2.1 ≤ q) s.heap H1 locs := ⟨Nat.le_trans hS.1 (by omega), fun q q1 q2 => (o1 q (Nat.lt_of_lt_of_le q1 hS.1)).trans (hS.2.1 q q1 q2), hS.2.2⟩
  have hR1 : k_HR G' A E σ H1 := hR.grow (by omega) o1
  refine lv_dup hx hb d2 rfl ?_
  refine k_afterR (rest := .ref H.size :: st.map (k_c A)) (a := [Value.ref H.size].toArray) (Qx := k_Qb G' H.size [.int 0, .ref G'.2.2.2.1, .int 0] A E) hS1 (vx_runI (As := []) (b := H.size) (rest := .ref H.size :: st.map (k_c A)) (nL := nL) ⟨hx, hb, hml, hown, hts⟩ (j_nl3 la' hla G' σ H.size (.int 0) .null (.int 0) A E) ⟨k_callB hts hw2.1 rfl rfl hr3 hr4, hw2.2.1, hts _ hw2.2.2⟩ ⟨k_Px.blind, fun U hU hW => ⟨⟨rfl, hKS.call hW hU hS1, by rw [hU]; exact hR1, fun v hv => by simp at hv; rcases hv with rfl; trivial⟩, by rw [hU]; exact ⟨hob1, hBs⟩⟩⟩ rfl rfl (by rw [← hml]; exact hlc.1) rfl (lv_room (Nat.le_trans (k_sum (A := A) (k_r H.size :: st)) (by simp only [List.length_cons]; omega))) d3 ⟨hr1, hr2⟩) (fun v st1 t locs1 hst hq hS9 => ?_)
  obtain ⟨hv, q1, q2, q3⟩ := hq
  cases hv
  rw [hst] at q1 q2
  have hkeep : ∀ q : Nat, q < H.size → t.heap[q]? = H[q]? := fun q hq => (q2 q (by omega)).trans (o1 q hq)
  have heS : s.heap[G'.2.2.2.1]? = some G'.2.2.2.2.2 := hKS.2.2.2.2.2.2.2.1.1
  have hlt : G'.2.2.2.1 < s.heap.size := (Array.getElem?_eq_some_iff.mp heS).1
  have he9 : t.heap[G'.2.2.2.1]? = some G'.2.2.2.2.2 := by
    rw [hkeep _ (by omega), hS.2.1 _ hlt (by omega)]
    exact heS
  obtain ⟨hR', hx'⟩ := hR.newL hBB hBs hl h0 rfl (by omega) hkeep q3 he9
  have h9 := kk _ _ t.heap locs1 ls hR' (hE.trans hx') (hok.ext hx') (k_oks.cons (by show 0 < k_N (k_new σ l) l; rw [k_new_N, if_pos rfl]; omega) (hos.ext hx').1) hS9 (hlc.ext hx' hok)
  rw [List.map_cons, (hos.ext hx').2] at h9
  have e9 : k_c (k_nA A l 0 H.size) (k_p l 0) = .ref H.size := by show Value.ref _ = _; rw [k_nA_s]
  rw [e9] at h9
  exact h9
