/-! ===== THE WORLD: cells by a label (what kind of thing) and a number; a pure state that says what they hold ===== -/
/-- a value of a frame: the machine's own, or 'the thing i of label l' -/
abbrev k_AV : Type := Value ⊕ (Nat × Nat)
abbrev k_i (x : Int32) : k_AV := .inl (.int x)
abbrev k_l (x : Int64) : k_AV := .inl (.long x)
abbrev k_f (x : UInt32) : k_AV := .inl (.float x)
abbrev k_d (x : UInt64) : k_AV := .inl (.double x)
abbrev k_n : k_AV := .inl .null
abbrev k_r (a : Nat) : k_AV := .inl (.ref a)
abbrev k_p (l i : Nat) : k_AV := .inr (l, i)
/-- ints, longs, doubles, references (numbers at the label that the kind tells), how many things a label has, how long a list is -/
abbrev k_S : Type := (Nat → Nat → Nat → Int32) × (Nat → Nat → Nat → Int64) × (Nat → Nat → Nat → UInt64) × (Nat → Nat → Nat → Option Nat) × (Nat → Nat) × (Nat → Nat)
def k_I (σ : k_S) : Nat → Nat → Nat → Int32 := σ.1
def k_J (σ : k_S) : Nat → Nat → Nat → Int64 := σ.2.1
def k_D (σ : k_S) : Nat → Nat → Nat → UInt64 := σ.2.2.1
def k_P (σ : k_S) : Nat → Nat → Nat → Option Nat := σ.2.2.2.1
def k_N (σ : k_S) : Nat → Nat := σ.2.2.2.2.1
def k_Z (σ : k_S) : Nat → Nat := σ.2.2.2.2.2
def k_up3 {α : Type} (f : Nat → Nat → Nat → α) (l i k : Nat) (v : α) : Nat → Nat → Nat → α := fun l' i' k' => if l' = l ∧ i' = i ∧ k' = k then v else f l' i' k'
def k_up1 {α : Type} (f : Nat → α) (l : Nat) (v : α) : Nat → α := fun l' => if l' = l then v else f l'
def k_uI (σ : k_S) (l i k : Nat) (v : Int32) : k_S := (k_up3 (k_I σ) l i k v, k_J σ, k_D σ, k_P σ, k_N σ, k_Z σ)
def k_uJ (σ : k_S) (l i k : Nat) (v : Int64) : k_S := (k_I σ, k_up3 (k_J σ) l i k v, k_D σ, k_P σ, k_N σ, k_Z σ)
def k_uD (σ : k_S) (l i k : Nat) (v : UInt64) : k_S := (k_I σ, k_J σ, k_up3 (k_D σ) l i k v, k_P σ, k_N σ, k_Z σ)
def k_uP (σ : k_S) (l i k : Nat) (v : Option Nat) : k_S := (k_I σ, k_J σ, k_D σ, k_up3 (k_P σ) l i k v, k_N σ, k_Z σ)
def k_uN (σ : k_S) (l : Nat) (v : Nat) : k_S := (k_I σ, k_J σ, k_D σ, k_P σ, k_up1 (k_N σ) l v, k_Z σ)
def k_uZ (σ : k_S) (l : Nat) (v : Nat) : k_S := (k_I σ, k_J σ, k_D σ, k_P σ, k_N σ, k_up1 (k_Z σ) l v)
/-- a thing more of label l, its places at their defaults -/
def k_new (σ : k_S) (l : Nat) : k_S :=
  (fun l' i' k' => if l' = l ∧ i' = k_N σ l then 0 else k_I σ l' i' k', fun l' i' k' => if l' = l ∧ i' = k_N σ l then 0 else k_J σ l' i' k', fun l' i' k' => if l' = l ∧ i' = k_N σ l then 0 else k_D σ l' i' k',
   fun l' i' k' => if l' = l ∧ i' = k_N σ l then none else k_P σ l' i' k', k_up1 (k_N σ) l (k_N σ l + 1), k_up1 (k_Z σ) l 0)
/-! labels: 0 the hall, 1 the model, 2 rules, 3 users, 4 bots, 5 reports, 6 sanctions, 7 entries, 8 standings, 9 a report's votes, 10 a standing's outcomes, 11 its turns, 12 .. 17 the lists of 2 .. 7, 18 the law's longs, 19 its doubles, 20 .. 40 the model's arrays in the order of its fields, 41 its votes, 42 their rows -/
def k_isL (l : Nat) : Bool := Nat.ble 12 l && Nat.ble l 17
/-- an object: number of its class in k_cl, of its fields; an array: number of its type in k_tys, its length -/
def k_sch (l : Nat) : (Nat × Nat) ⊕ (Nat × Nat) := match l with
  | 0 => .inl (8, 10)
  | 1 => .inl (9, 33)
  | 2 => .inl (4, 6)
  | 3 => .inl (7, 1)
  | 4 => .inl (1, 2)
  | 5 => .inl (3, 13)
  | 6 => .inl (5, 3)
  | 7 => .inl (2, 4)
  | 8 => .inl (6, 3)
  | 9 => .inr (0, 8)
  | 10 => .inr (1, 20)
  | 11 => .inr (0, 20)
  | 18 => .inr (3, 1)
  | 19 => .inr (4, 1)
  | 20 => .inr (0, 12)
  | 21 => .inr (0, 12)
  | 22 => .inr (0, 12)
  | 23 => .inr (0, 12)
  | 24 => .inr (0, 12)
  | 25 => .inr (0, 8)
  | 26 => .inr (0, 4)
  | 27 => .inr (0, 4)
  | 28 => .inr (2, 12)
  | 38 => .inr (1, 20)
  | 39 => .inr (1, 20)
  | 40 => .inr (1, 20)
  | 41 => .inr (6, 20)
  | 42 => .inr (0, 8)
  | _ => .inr (0, 20)
/-- the kind of a place: 0 an int of some width, 1 a long, 2 a double, L + 3 a reference to a thing of label L -/
def k_kd (l k : Nat) : Nat := match l with
  | 0 => [15, 16, 17, 18, 19, 20, 11, 11, 0, 0].getD k 0
  | 1 => [0, 23, 24, 25, 26, 27, 28, 29, 30, 31, 0, 0, 0, 0, 0, 32, 33, 34, 35, 36, 37, 38, 39, 40, 41, 42, 43, 44, 0, 0, 0, 0, 1].getD k 0
  | 5 => [0, 6, 6, 0, 0, 0, 12, 0, 7, 9, 0, 0, 0].getD k 0
  | 6 => [6, 0, 0].getD k 0
  | 7 => [8, 0, 0, 0].getD k 0
  | 8 => [13, 14, 0].getD k 0
  | 12 => 5
  | 13 => 6
  | 14 => 7
  | 15 => 8
  | 16 => 9
  | 17 => 10
  | 18 => 1
  | 19 => 2
  | 41 => 45
  | _ => 0
/-- the width of an int -/
def k_ty (l k : Nat) : FieldType := match l with
  | 2 => if k = 1 then .boolean else .int
  | 5 => if k = 7 ∨ k = 11 then .char else if k = 10 ∨ k = 12 then .boolean else .int
  | 7 => if k = 1 then .boolean else .int
  | 10 => .char
  | 28 => .boolean
  | 38 => .char
  | 39 => .char
  | 40 => .char
  | _ => .int
def k_fit (ty : FieldType) (x : Int32) : Prop := narrow ty (.int x) = .int x ∧ fits ty (.int x) = true
theorem k_fit_int (x : Int32) : k_fit .int x := ⟨rfl, rfl⟩
theorem k_fit_0 (ty : FieldType) (h : ty = .int ∨ ty = .char ∨ ty = .boolean) : k_fit ty 0 := by
  rcases h with rfl | rfl | rfl <;> exact ⟨by decide, by decide⟩
/-- the classes of the world's objects -/
abbrev k_cl : List vw_C := [(RJx4a65c, TJx4a65c, 3), (RX0, TX0, 2), (RX1, TX1, 4), (RX2, TX2, 13), (RX3, TX3, 6), (RX4, TX4, 3), (RX5, TX5, 3), (RX6, TX6, 1), (RX7, TX7, 10), (RX8, TX8, 33)]
abbrev k_tys (cA : Nat → ClassId) : List (ClassId × FieldType) := [(cA 0, .int), (cA 1, .char), (cA 2, .boolean), (cA 3, .long), (cA 4, .double), (cA 5, .object "java/lang/Object"), (cA 6, .array .int)]
/-- what is fixed for a run: classes and slots, array classes, the first cell that is ours, the empty array of lists, the texts -/
abbrev k_G : Type := va_G × (Nat → ClassId) × Nat × Nat × (Nat → Nat) × Cell
/-- an address for each thing -/
abbrev k_A : Type := Nat → Nat → Nat
def k_c (A : k_A) (v : k_AV) : Value := match v with
  | .inl v => v
  | .inr q => .ref (A q.1 q.2)
/-- what a place holds, for the machine -/
def k_fv (A : k_A) (σ : k_S) (l i k : Nat) : Value := match k_kd l k with
  | 0 => .int (k_I σ l i k)
  | 1 => .long (k_J σ l i k)
  | 2 => .double (k_D σ l i k)
  | L + 3 => va_rf ((k_P σ l i k).map (A L))
/-- the cell of a thing -/
def k_at (G : k_G) (A : k_A) (σ : k_S) (l i : Nat) (H : Heap) : Prop := match k_sch l with
  | .inl q => t_OB (A l i) (G.1.1 q.1) q.2 (G.1.2 q.1) H (k_fv A σ l i)
  | .inr q => H[A l i]? = some (arrV (G.2.1 q.1) q.2 (k_fv A σ l i))
/-- the cell of a list's array: the given empty one (of which we know its type and its length), or one of ours -/
def k_av (G : k_G) (cap : Nat) (f : Nat → Value) : Cell := if cap = 0 then G.2.2.2.2.2 else arrV (G.2.1 5) cap f
def k_EA (G : k_G) : Prop := G.2.2.2.2.2.slots.size = 0
theorem k_av_0 {G : k_G} {f : Nat → Value} : k_av G 0 f = G.2.2.2.2.2 := if_pos rfl
theorem k_av_n {G : k_G} {cap : Nat} {f : Nat → Value} (h : 0 < cap) : k_av G cap f = arrV (G.2.1 5) cap f := if_neg (by omega)
theorem k_av_size {G : k_G} {cap : Nat} {f : Nat → Value} (h : k_EA G) : (k_av G cap f).slots.size = cap := by
  by_cases c : cap = 0
  · subst c
    rw [k_av_0]
    exact h
  · rw [k_av_n (by omega), arrV_size]
/-- a list: its object, its array -/
def k_Li (G : k_G) (A : k_A) (E : Nat → Nat) (σ : k_S) (l : Nat) (H : Heap) : Prop :=
  ∃ (mc : Int32) (cap : Nat), t_OB (A l 0) (G.1.1 0) 3 (G.1.2 0) H (vp_V [.int mc, .ref (E l), .int (nI (k_Z σ l))]) ∧
    H[E l]? = some (k_av G cap (fun j => va_rf (if j < k_Z σ l then (k_P σ l 0 j).map (A (l - 10)) else none))) ∧ k_Z σ l ≤ cap ∧ cap ≤ 2 * k_Z σ l + 10 ∧
    ((cap = 0 ∧ E l = G.2.2.2.1) ∨ (0 < cap ∧ G.2.2.1 ≤ E l ∧ (∀ l' i', i' < k_N σ l' → A l' i' ≠ E l) ∧ ∀ l', k_isL l' = true → 0 < k_N σ l' → l' ≠ l → E l' ≠ E l))
/-- the heap holds the world -/
def k_HR (G : k_G) (A : k_A) (E : Nat → Nat) (σ : k_S) (H : Heap) : Prop :=
  (∀ l i, k_isL l = false → i < k_N σ l → k_at G A σ l i H) ∧
  (∀ l i l' i', i < k_N σ l → i' < k_N σ l' → A l i = A l' i' → l = l' ∧ i = i') ∧
  (∀ l i, i < k_N σ l → G.2.2.1 ≤ A l i ∧ A l i < H.size) ∧
  (∀ l i k j, i < k_N σ l → 3 ≤ k_kd l k → k_P σ l i k = some j → j < k_N σ (k_kd l k - 3)) ∧
  (∀ l i k, i < k_N σ l → k_fit (k_ty l k) (k_I σ l i k)) ∧
  (∀ l, k_isL l = true → 0 < k_N σ l → k_N σ l = 1 ∧ k_Li G A E σ l H)
/-- the addresses of the things that are there stay -/
def k_Ext (A A' : k_A) (σ σ' : k_S) : Prop := ∀ l i, i < k_N σ l → i < k_N σ' l ∧ A' l i = A l i
theorem k_Ext.refl (A : k_A) (σ : k_S) : k_Ext A A σ σ := fun _ _ h => ⟨h, rfl⟩
theorem k_Ext.trans {A A1 A2 : k_A} {σ σ1 σ2 : k_S} (h1 : k_Ext A A1 σ σ1) (h2 : k_Ext A1 A2 σ1 σ2) : k_Ext A A2 σ σ2 := fun l i h => by
  obtain ⟨a, b⟩ := h1 l i h
  obtain ⟨c, d⟩ := h2 l i a
  exact ⟨c, d.trans b⟩
def k_ok (σ : k_S) (v : k_AV) : Prop := match v with
  | .inl _ => True
  | .inr q => q.2 < k_N σ q.1
def k_oks (σ : k_S) (vs : List k_AV) : Prop := ∀ v ∈ vs, k_ok σ v
def k_okL (σ : k_S) (L : List (Option k_AV)) : Prop := ∀ v : k_AV, some v ∈ L → k_ok σ v
theorem k_ok.ext {A A' : k_A} {σ σ' : k_S} (h : k_Ext A A' σ σ') {v : k_AV} (hv : k_ok σ v) : k_ok σ' v ∧ k_c A' v = k_c A v := by
  obtain v | ⟨l, i⟩ := v
  · exact ⟨trivial, rfl⟩
  · obtain ⟨a, b⟩ := h l i hv
    exact ⟨a, by show Value.ref _ = Value.ref _; rw [b]⟩
theorem k_oks.ext {A A' : k_A} {σ σ' : k_S} (h : k_Ext A A' σ σ') {vs : List k_AV} (hv : k_oks σ vs) : k_oks σ' vs ∧ vs.map (k_c A') = vs.map (k_c A) :=
  ⟨fun v q => (k_ok.ext h (hv v q)).1, List.map_congr_left fun v q => (k_ok.ext h (hv v q)).2⟩
theorem k_okL.ext {A A' : k_A} {σ σ' : k_S} (h : k_Ext A A' σ σ') {L : List (Option k_AV)} (hv : k_okL σ L) : k_okL σ' L := fun v q => (k_ok.ext h (hv v q)).1
theorem k_oks.cons {σ : k_S} {v : k_AV} {vs : List k_AV} (h : k_ok σ v) (h2 : k_oks σ vs) : k_oks σ (v :: vs) := fun w hw => (List.mem_cons.mp hw).elim (fun e => by rw [e]; exact h) (h2 w)
theorem k_oks.tail {σ : k_S} {v : k_AV} {vs : List k_AV} (h : k_oks σ (v :: vs)) : k_oks σ vs := fun w hw => h w (List.mem_cons_of_mem _ hw)
theorem k_oks.head {σ : k_S} {v : k_AV} {vs : List k_AV} (h : k_oks σ (v :: vs)) : k_ok σ v := h v List.mem_cons_self
theorem k_oks.app {σ : k_S} {vs ws : List k_AV} (h : k_oks σ vs) (h2 : k_oks σ ws) : k_oks σ (vs ++ ws) := fun w hw => (List.mem_append.mp hw).elim (h w) (h2 w)
theorem k_ok.val (σ : k_S) (v : Value) : k_ok σ (.inl v) := trivial
/-- the locals that are known -/
def k_has (A : k_A) (L : List (Option k_AV)) (ls : Array Slot) (nL : Nat) : Prop := ls.size = nL ∧ lv_wf ls ∧ ∀ (i : Nat) (v : k_AV), L[i]? = some (some v) → ls[i]? = some (.val (k_c A v))
def k_lv (A : k_A) (L : List (Option k_AV)) : List (Nat × Value) := (List.range L.length).filterMap fun i => ((L[i]?).join).map fun v => (i, k_c A v)
theorem k_lv_mem {A : k_A} {L : List (Option k_AV)} {q : Nat × Value} : q ∈ k_lv A L ↔ ∃ v : k_AV, L[q.1]? = some (some v) ∧ q.2 = k_c A v := by
  unfold k_lv
  rw [List.mem_filterMap]
  constructor
  · rintro ⟨i, hi, h⟩
    cases h2 : (L[i]?).join with
    | none => rw [h2] at h; cases h
    | some v =>
      rw [h2] at h
      cases h
      exact ⟨v, Option.join_eq_some_iff.mp h2, rfl⟩
  · rintro ⟨v, h1, h2⟩
    refine ⟨q.1, List.mem_range.mpr (List.getElem?_eq_some_iff.mp h1).1, ?_⟩
    rw [h1]
    show some (q.1, k_c A v) = some q
    rw [← h2]
theorem k_has.lv {A : k_A} {L : List (Option k_AV)} {ls : Array Slot} {nL : Nat} (h : k_has A L ls nL) : lv_has ls nL (k_lv A L) := ⟨h.1, h.2.1, fun q hq => by
  obtain ⟨v, h1, h2⟩ := k_lv_mem.mp hq
  rw [h2]
  exact h.2.2 q.1 v h1⟩
theorem k_has.ext {A A' : k_A} {σ σ' : k_S} (h : k_Ext A A' σ σ') {L : List (Option k_AV)} {ls : Array Slot} {nL : Nat} (hv : k_okL σ L) (hl : k_has A L ls nL) : k_has A' L ls nL := ⟨hl.1, hl.2.1, fun i v q => by
  rw [(k_ok.ext h (hv v (List.mem_of_getElem? q))).2]
  exact hl.2.2 i v q⟩
/-- a value of two slots -/
def k_w (o : Option k_AV) : Bool := match o with
  | some (.inl (.long _)) => true
  | some (.inl (.double _)) => true
  | _ => false
theorem k_w_cat {A : k_A} {v : k_AV} (h : k_w (some v) = false) : (k_c A v).category ≠ 2 := by
  obtain v | ⟨l, i⟩ := v
  · cases v <;> first | (cases h; done) | (show ¬ (1 : Nat) = 2; decide)
  · show ¬ (1 : Nat) = 2
    decide
/-- a store of a value of one slot: a wide value ahead of it goes -/
def k_st (L : List (Option k_AV)) (i : Nat) (v : k_AV) : List (Option k_AV) := (match i with
  | 0 => L
  | j + 1 => if k_w ((L[j]?).join) = true then L.set j none else L).set i (some v)
def k_st2 (L : List (Option k_AV)) (i : Nat) (v : k_AV) : List (Option k_AV) := ((match i with
  | 0 => L
  | j + 1 => if k_w ((L[j]?).join) = true then L.set j none else L).set (i + 1) none).set i (some v)
