/-! ===== the model's array of arrays ===== -/
def k_AI (U : State) : Prop := (Cond.arrayOver (.array .int)).before #[] U = true
theorem k_AI.moved {u U : State} (hvm : u.vm.Alike U.vm) (h : k_AI u) : k_AI U := by
  unfold k_AI Cond.before Cond.holds at h ⊢
  simp only [Cond.value, beq_iff_eq] at h ⊢
  cases hc : u.vm.findClass (FieldType.array .int).toString with
  | none => simp [hc] at h
  | some comp =>
    simp only [hc, Option.bind_some, Option.bind_eq_some_iff, Option.map_eq_some_iff] at h
    obtain ⟨c, hi, k, hk, hb⟩ := h
    rw [hvm.findClass, hc, Option.bind_some, Option.bind_eq_some_iff]
    refine ⟨c, (hvm.findIdx?_eqK _ (fun _ => rfl)).trans hi, ?_⟩
    obtain ⟨k', hk', he⟩ := hvm.2.2 _ _ hk
    have hkind : k'.kind = k.kind := by rw [he]
    rw [hk', Option.map_some, hkind, hvm.findClass]
    exact congrArg some hb
theorem k_arrext {cI : ClassId} {N : Nat} {f g : Nat → Value} (h : ∀ j, j < N → f j = g j) : arrV cI N f = arrV cI N g := by
  unfold arrV
  congr 1
  congr 1
  funext j
  exact h j.val j.isLt
/-- twenty rows of eight, and the array of them -/
def k_mna (σ : k_S) : k_S := (fun l i k => if l = 42 then 0 else k_I σ l i k, k_J σ, k_D σ, fun l i k => if l = 41 then (if k < 20 then some k else none) else k_P σ l i k, fun l => if l = 41 then 1 else if l = 42 then 20 else k_N σ l, k_Z σ)
def k_mA (A : k_A) (b : Nat) : k_A := fun l i => if l = 41 then b else if l = 42 then b + 1 + i else A l i
theorem k_HR.mna {G : k_G} {A : k_A} {E : Nat → Nat} {σ : k_S} {H H1 : Heap} (h : k_HR G A E σ H) (hBs : G.2.2.1 ≤ H.size) (h1 : k_N σ 41 = 0) (h2 : k_N σ 42 = 0) (hz : H1.size = H.size + 21) (hq : ∀ q : Nat, q < H.size → H1[q]? = H[q]?)
    (ho : H1[H.size]? = some (arrV (G.2.1 6) 20 (fun j => .ref (H.size + 1 + j)))) (hi : ∀ j, j < 20 → H1[H.size + 1 + j]? = some (arrV (G.2.1 0) 8 (fun _ => .int 0))) : k_HR G (k_mA A H.size) E (k_mna σ) H1 ∧ k_Ext A (k_mA A H.size) σ (k_mna σ) := by
  obtain ⟨c1, c2, c3, c4, c5, c6⟩ := h
  have n41 : k_N (k_mna σ) 41 = 1 := rfl
  have n42 : k_N (k_mna σ) 42 = 20 := rfl
  have nO : ∀ l, l ≠ 41 → l ≠ 42 → k_N (k_mna σ) l = k_N σ l := fun l q1 q2 => (if_neg q1).trans (if_neg q2)
  have iO : ∀ l i k, l ≠ 42 → k_I (k_mna σ) l i k = k_I σ l i k := fun l i k q => if_neg q
  have pO : ∀ l i k, l ≠ 41 → k_P (k_mna σ) l i k = k_P σ l i k := fun l i k q => if_neg q
  have aO : ∀ l i, l ≠ 41 → l ≠ 42 → k_mA A H.size l i = A l i := fun l i q1 q2 => (if_neg q1).trans (if_neg q2)
  have a41 : ∀ i, k_mA A H.size 41 i = H.size := fun i => rfl
  have a42 : ∀ i, k_mA A H.size 42 i = H.size + 1 + i := fun i => rfl
  have old : ∀ l i, i < k_N σ l → l ≠ 41 ∧ l ≠ 42 := fun l i q => ⟨fun e => by rw [e, h1] at q; exact Nat.not_lt_zero _ q, fun e => by rw [e, h2] at q; exact Nat.not_lt_zero _ q⟩
  have tgt : ∀ l i k j, i < k_N σ l → 3 ≤ k_kd l k → k_P σ l i k = some j → k_mA A H.size (k_kd l k - 3) j = A (k_kd l k - 3) j := fun l i k j q1 q2 q3 => by
    have := old _ _ (c4 l i k j q1 q2 q3)
    exact aO _ _ this.1 this.2
  have hfv : ∀ l i k, i < k_N σ l → k_fv (k_mA A H.size) (k_mna σ) l i k = k_fv A σ l i k := by
    intro l i k q
    obtain ⟨e1, e2⟩ := old l i q
    unfold k_fv
    rw [iO l i k e2, pO l i k e1]
    split <;> try rfl
    next L hk =>
      cases hP : k_P σ l i k with
      | none => rfl
      | some j =>
        have := tgt l i k j q (by omega) hP
        rw [hk] at this
        have this : k_mA A H.size L j = A L j := this
        show Value.ref _ = Value.ref _
        rw [this]
  have cs : ∀ l i, i < k_N (k_mna σ) l → (l = 41 ∧ i = 0) ∨ (l = 42 ∧ i < 20) ∨ (i < k_N σ l ∧ l ≠ 41 ∧ l ≠ 42) := by
    intro l i q
    by_cases e1 : l = 41
    · subst e1; rw [n41] at q; exact Or.inl ⟨rfl, by omega⟩
    · by_cases e2 : l = 42
      · subst e2; rw [n42] at q; exact Or.inr (Or.inl ⟨rfl, q⟩)
      · rw [nO l e1 e2] at q; exact Or.inr (Or.inr ⟨q, e1, e2⟩)
  refine ⟨⟨fun l i hl hi' => ?_, fun l i l' i' q1 q2 e => ?_, fun l i hi' => ?_, fun l i k j hi' hk hP => ?_, fun l i k hi' => ?_, fun l hl hn => ?_⟩, fun l i hi' => ?_⟩
  · rcases cs l i hi' with ⟨rfl, rfl⟩ | ⟨rfl, q⟩ | ⟨q, e1, e2⟩
    · unfold k_at
      show H1[H.size]? = some (arrV (G.2.1 6) 20 (k_fv (k_mA A H.size) (k_mna σ) 41 0))
      rw [ho]
      refine congrArg some (k_arrext fun j hj => ?_)
      show Value.ref _ = va_rf ((if j < 20 then some j else none).map (k_mA A H.size 42))
      rw [if_pos hj]
      rfl
    · unfold k_at
      show H1[H.size + 1 + i]? = some (arrV (G.2.1 0) 8 (k_fv (k_mA A H.size) (k_mna σ) 42 i))
      rw [hi i q]
      rfl
    · exact (c1 l i hl q).kept (aO l i e1 e2) (hq _ (c3 l i q).2) (fun k => hfv l i k q)
  · rcases cs l i q1 with ⟨rfl, rfl⟩ | ⟨rfl, r1⟩ | ⟨r1, e1, e2⟩ <;> rcases cs l' i' q2 with ⟨rfl, rfl⟩ | ⟨rfl, r2⟩ | ⟨r2, f1, f2⟩
    · exact ⟨rfl, rfl⟩
    · rw [a41, a42] at e; omega
    · rw [a41, aO _ _ f1 f2] at e; have := (c3 _ _ r2).2; omega
    · rw [a41, a42] at e; omega
    · rw [a42, a42] at e; exact ⟨rfl, by omega⟩
    · rw [a42, aO _ _ f1 f2] at e; have := (c3 _ _ r2).2; omega
    · rw [a41, aO _ _ e1 e2] at e; have := (c3 _ _ r1).2; omega
    · rw [a42, aO _ _ e1 e2] at e; have := (c3 _ _ r1).2; omega
    · rw [aO _ _ e1 e2, aO _ _ f1 f2] at e; exact c2 _ _ _ _ r1 r2 e
  · rcases cs l i hi' with ⟨rfl, rfl⟩ | ⟨rfl, q⟩ | ⟨q, e1, e2⟩
    · rw [a41]; omega
    · rw [a42]; omega
    · rw [aO _ _ e1 e2, hz]; have := c3 l i q; omega
  · rcases cs l i hi' with ⟨rfl, rfl⟩ | ⟨rfl, q⟩ | ⟨q, e1, e2⟩
    · have hP : (if k < 20 then some k else none) = some j := hP
      by_cases e : k < 20
      · rw [if_pos e] at hP
        cases hP
        exact e
      · rw [if_neg e] at hP
        cases hP
    · exact absurd (show 3 ≤ 0 from hk) (by decide)
    · rw [pO l i k e1] at hP
      have := c4 l i k j q hk hP
      have o := old _ _ this
      rw [nO _ o.1 o.2]
      exact this
  · rcases cs l i hi' with ⟨rfl, rfl⟩ | ⟨rfl, q⟩ | ⟨q, e1, e2⟩
    · exact k_fit_int _
    · exact k_fit_int _
    · rw [iO l i k e2]
      exact c5 l i k q
  · have e1 : l ≠ 41 := fun e => by rw [e] at hl; cases hl
    have e2 : l ≠ 42 := fun e => by rw [e] at hl; cases hl
    rw [nO l e1 e2] at hn ⊢
    obtain ⟨d1, mc, cap, d2, d3, d4, d5, d6⟩ := c6 l hl hn
    have hE : E l < H.size := (Array.getElem?_eq_some_iff.mp d3).1
    refine ⟨d1, mc, cap, ?_, ?_, d4, d5, ?_⟩
    · rw [aO l 0 e1 e2]
      exact d2.kept (hq _ (c3 l 0 hn).2)
    · rw [hq _ hE, d3]
      congr 2
      funext j
      show va_rf (if j < k_Z σ l then (k_P σ l 0 j).map (A (l - 10)) else none) = va_rf (if j < k_Z σ l then (k_P (k_mna σ) l 0 j).map (k_mA A H.size (l - 10)) else none)
      rw [pO l 0 j e1]
      by_cases hj : j < k_Z σ l
      · rw [if_pos hj, if_pos hj]
        cases hP : k_P σ l 0 j with
        | none => rfl
        | some z =>
          have hkd := (k_isL_kd (k := j) hl).1
          have := tgt l 0 j z hn (by rw [hkd]; omega) hP
          rw [hkd, Nat.add_sub_cancel] at this
          show Value.ref _ = Value.ref _
          rw [this]
      · rw [if_neg hj, if_neg hj]
    · rcases d6 with d6 | ⟨f1, f2, f3, f4⟩
      · exact Or.inl d6
      · refine Or.inr ⟨f1, f2, fun l2 i2 q2 => ?_, fun l2 hl2 hn2 hne => ?_⟩
        · rcases cs l2 i2 q2 with ⟨rfl, rfl⟩ | ⟨rfl, q⟩ | ⟨q, g1, g2⟩
          · rw [a41]; omega
          · rw [a42]; omega
          · rw [aO _ _ g1 g2]; exact f3 l2 i2 q
        · have g1 : l2 ≠ 41 := fun e => by rw [e] at hl2; cases hl2
          have g2 : l2 ≠ 42 := fun e => by rw [e] at hl2; cases hl2
          rw [nO l2 g1 g2] at hn2
          exact f4 l2 hl2 hn2 hne
  · obtain ⟨e1, e2⟩ := old l i hi'
    exact ⟨by rw [nO l e1 e2]; exact hi', aO l i e1 e2⟩
theorem k_outer (c : ClassId) (N h0 : Nat) : ∀ i, Jvm.Free.Multi.outerC c N h0 i = arrV c N (fun j => if j < i then .ref (h0 + 1 + j) else .null)
  | 0 => by
    show ({ cls := c, slots := Array.replicate N .null, vm := .none } : Cell) = _
    rw [arrV_new]
    exact k_arrext fun j _ => (if_neg (Nat.not_lt_zero j)).symm
  | i + 1 => by
    show (Jvm.Free.Multi.outerC c N h0 i).setSlot i (.ref (h0 + 1 + i)) = _
    rw [k_outer c N h0 i, arrV_store]
    refine k_arrext fun j _ => ?_
    unfold updV
    by_cases e : j = i
    · rw [if_pos e, if_pos (by omega), e]
    · rw [if_neg e]
      by_cases e2 : j < i
      · dsimp only
        rw [if_pos e2, if_pos (by omega)]
      · dsimp only
        rw [if_neg e2, if_neg (by omega)]
theorem r_mna {X : k_X} {own : String} {cc : ByteArray} {nL : Nat} (h : k_Ok X own cc nL) {la : Launch} {G : k_G} {σ0 : k_S} {rm0 : Room} {nm : String} (hMe : k_Me X la G σ0 rm0 nm) (hAI : k_AI X.2.2.2.2.1) {σ : k_S} {k n pc : Nat} {L : List (Option k_AV)} {st : List k_AV} {idx : Nat} (hw : Cond.classLink own idx "[[I" ∈ k_Tb) (d : decode cc pc = .ok (.multianewarray idx 2, 4)) (h1 : k_N σ 41 = 0) (h2 : k_N σ 42 = 0) (hr : k + 21 ≤ rm0.cells ∧ n + 180 ≤ rm0.slots)
    (kk : k_W X (k_mna σ) (k + 21) (n + 180) (pc + 4) L (k_p 41 0 :: st)) : k_W X σ k n pc L (k_i 8 :: k_i 20 :: st) := by
  obtain ⟨p, la', e, R, s, m, args, below, meth, c, Q, G', A0, σ0'⟩ := X
  obtain ⟨rfl, rfl, rfl, rfl, -⟩ := hMe
  intro A E H locs ls hR hE hok hos hS hlc
  obtain ⟨hx, hb, hml, hown, hts, hKS, hlocks, hfl⟩ := h
  have hos' : k_oks σ st := hos.tail.tail
  have hBs : G'.2.2.1 ≤ H.size := Nat.le_trans hKS.2.1 hS.1
  have hAI' : (Cond.arrayOver (.array .int)).before args s = true := by
    have := hAI
    unfold k_AI Cond.before Cond.holds at this
    unfold Cond.before Cond.holds
    exact this
  intro T hT X
  obtain ⟨vm₁, cA, comp, hW, hfA, hfC, -, -, X1, step⟩ := X.multianewarray2F hx (own := own) (index := idx) (ty := .int) hown (hts _ hw) hAI' (hts _ wd_87) (g := F0 m pc ls ((k_i 8 :: k_i 20 :: st).map (k_c A))) rfl (by rw [hb]; exact d) (n := 20) (k := 8) (rest := st.map (k_c A)) rfl (by decide) (by decide) (by decide) (by decide) (by decide) rfl (by decide) (Nat.le_trans (Nat.le_of_eq (by rfl)) hr.1) (Nat.le_trans (Nat.le_of_eq (by rfl)) hr.2)
  have eA : cA = G'.2.1 6 := Option.some.inj (hfA.symm.trans (hKS.1.2 6 _ rfl).2)
  have eC : comp = G'.2.1 0 := Option.some.inj (hfC.symm.trans (hKS.1.2 0 _ rfl).2)
  subst eA eC
  have e20 : (20 : Int32).toNatClampNeg = 20 := by decide
  have e8 : (8 : Int32).toNatClampNeg = 8 := by decide
  rw [e20, e8] at X1 step
  generalize hF : Jvm.Free.Multi.fill (T.setVm vm₁) (G'.2.1 6) (G'.2.1 0) 20 8 (defaultValue .int) 20 = U at X1 step
  have hsz : (T.setVm vm₁).heap.size = H.size := by rw [← hT]; rfl
  have f1 := Jvm.Free.Multi.fill_facts (T.setVm vm₁) (G'.2.1 6) (G'.2.1 0) 20 8 (defaultValue .int) 20
  rw [hF, hsz] at f1
  have z1 : U.heap.size = H.size + 21 := by omega
  have o1 : ∀ q : Nat, q < H.size → U.heap[q]? = H[q]? := fun q hq => by
    have := Jvm.Free.Multi.fill_old (T.setVm vm₁) (G'.2.1 6) (G'.2.1 0) 20 8 (defaultValue .int) (a := q) (by rw [hsz]; exact hq) 20
    rw [hF] at this
    rw [this, ← hT]
    rfl
  have ho : U.heap[H.size]? = some (arrV (G'.2.1 6) 20 (fun j => .ref (H.size + 1 + j))) := by
    rw [f1.2.1, k_outer]
    exact congrArg some (k_arrext fun j hj => if_pos hj)
  have hi : ∀ j, j < 20 → U.heap[H.size + 1 + j]? = some (arrV (G'.2.1 0) 8 (fun _ => .int 0)) := fun j hj => by
    have := Jvm.Free.Multi.fill_inner (T.setVm vm₁) (G'.2.1 6) (G'.2.1 0) 20 8 (defaultValue .int) 20 j hj
    rw [hF, hsz] at this
    rw [this, ← arrV_new]
    rfl
  obtain ⟨hR', hx'⟩ := hR.mna hBs h1 h2 z1 o1 ho hi
  have h9 := kk _ E U.heap locs ls hR' (hE.trans hx') (hok.ext hx') (k_oks.cons (show 0 < k_N (k_mna σ) 41 from Nat.zero_lt_one) (hos'.ext hx').1) ⟨Nat.le_trans hS.1 (by omega), fun q q1 q2 => (o1 q (Nat.lt_of_lt_of_le q1 hS.1)).trans (hS.2.1 q q1 q2), hS.2.2⟩ (hlc.ext hx' hok)
  rw [List.map_cons, (hos'.ext hx').2] at h9
  obtain ⟨t, t1, t2⟩ := h9 U rfl X1
  exact ⟨t, step t (by rw [hT]; exact t1), t2⟩
