/-! ===== what walks by program need: results, guards, rows that read through ===== -/
def k_tc {α : Type} (mk : α → Option k_AV) (σ : k_S) : α ⊕ String → k_Oc
  | .inl v => .inl (mk v, σ)
  | .inr e => .inr e
def k_mc {α : Type} (mk : α → Option k_AV) : (α × k_S) ⊕ String → k_Oc
  | .inl p => .inl (mk p.1, p.2)
  | .inr e => .inr e
def k_mI (x : Int32) : Option k_AV := some (k_i x)
def k_mJ (x : Int64) : Option k_AV := some (k_l x)
def k_mD (x : UInt64) : Option k_AV := some (k_d x)
def k_mF (x : UInt32) : Option k_AV := some (k_f x)
def k_mU (_ : Unit) : Option k_AV := none
def k_mR (l : Nat) (x : Nat) : Option k_AV := some (k_p l x)
def k_mO (l : Nat) (x : Option Nat) : Option k_AV := some (match x with
  | none => k_n
  | some j => k_p l j)
def k_bt {α β : Type} (x : Option (α ⊕ String)) (K : α → Option (β ⊕ String)) : Option (β ⊕ String) := match x with
  | none => none
  | some (.inl v) => K v
  | some (.inr e) => some (.inr e)
theorem k_bt_ex {α β : Type} {x : Option (α ⊕ String)} {K : α → Option (β ⊕ String)} {y : β ⊕ String} (h : k_bt x K = some y) : (∃ v, x = some (.inl v) ∧ K v = some y) ∨ ∃ e, x = some (.inr e) ∧ (.inr e : β ⊕ String) = y := by
  match x, h with
  | some (.inl v), h => exact Or.inl ⟨v, rfl, h⟩
  | some (.inr e), h => exact Or.inr ⟨e, rfl, Option.some.inj h⟩
def k_bn {α β : Type} (x : Option (α ⊕ String)) (K : α → Option β) : Option β := match x with
  | some (.inl v) => K v
  | _ => none
theorem k_bn_ex {α β : Type} {x : Option (α ⊕ String)} {K : α → Option β} {y : β} (h : k_bn x K = some y) : ∃ v, x = some (.inl v) ∧ K v = some y := by
  match x, h with
  | some (.inl v), h => exact ⟨v, rfl, h⟩
def k_on {β : Type} (o : Option Nat) (A : β) (B : Nat → β) : β := match o with
  | none => A
  | some j => B j
theorem k_on_n {β : Type} {o : Option Nat} {A : β} {B : Nat → β} (h : o = none) : k_on o A B = A := by rw [h]; rfl
theorem k_on_s {β : Type} {o : Option Nat} {A : β} {B : Nat → β} {j : Nat} (h : o = some j) : k_on o A B = B j := by rw [h]; rfl
/-- a loop that may return -/
def k_lr {ε π : Type} (x : Option (ε ⊕ π)) (K : ε → Option π) : Option π := match x with
  | none => none
  | some (.inl e) => K e
  | some (.inr p) => some p
theorem k_lr_ex {ε π : Type} {x : Option (ε ⊕ π)} {K : ε → Option π} {y : π} (h : k_lr x K = some y) : (∃ e, x = some (.inl e) ∧ K e = some y) ∨ x = some (.inr y) := by
  match x, h with
  | some (.inl e), h => exact Or.inl ⟨e, rfl, h⟩
  | some (.inr p), h => exact Or.inr (by rw [Option.some.inj h])
theorem k_gd {c : Prop} {inst : Decidable c} {α : Type} {K : Option α} {y : α} (h : (if c then K else none) = some y) : c ∧ K = some y := by
  by_cases q : c
  · rw [if_pos q] at h
    exact ⟨q, h⟩
  · rw [if_neg q] at h
    cases h
theorem k_ob {α β : Type} {x : Option α} {K : α → Option β} {y : β} (h : x.bind K = some y) : ∃ v, x = some v ∧ K v = some y := Option.bind_eq_some_iff.mp h
theorem k_wl {as : List k_AV} (h : as.all (fun v => !k_w (some v)) = true) : ∀ v ∈ as, k_w (some v) = false := fun v hv => by
  have := List.all_eq_true.mp h v hv
  simpa using this
def k_le : List (Option k_AV) → List (Option k_AV) → Prop
  | [], _ => True
  | none :: L', _ :: L => k_le L' L
  | none :: L', [] => k_le L' []
  | some v :: L', w :: L => w = some v ∧ k_le L' L
  | some _ :: _, [] => False
theorem k_le_ok : ∀ {L' L : List (Option k_AV)}, k_le L' L → ∀ (i : Nat) (v : k_AV), L'[i]? = some (some v) → L[i]? = some (some v)
  | [], _, _, _, _, h => by cases h
  | none :: L', w :: L, h, 0, v, h2 => by cases h2
  | none :: L', w :: L, h, i + 1, v, h2 => by
    have := k_le_ok (L' := L') (L := L) h i v (by simpa using h2)
    simpa using this
  | none :: L', [], h, 0, v, h2 => by cases h2
  | none :: L', [], h, i + 1, v, h2 => by
    have := k_le_ok (L' := L') (L := []) h i v (by simpa using h2)
    simp at this
  | some u :: L', w :: L, h, 0, v, h2 => by
    rw [h.1]
    simpa using h2
  | some u :: L', w :: L, h, i + 1, v, h2 => by
    have := k_le_ok (L' := L') (L := L) h.2 i v (by simpa using h2)
    simpa using this
theorem k_Me.nm {X : k_X} {la : Launch} {G : k_G} {σ0 : k_S} {rm : Room} {nm : String} (h : k_Me X la G σ0 rm nm) : X.2.2.2.2.2.2.2.2.1.name = nm := by
  obtain ⟨p, la', e, R, s, m, args, below, meth, c, Q, G', A0, σ0'⟩ := X
  exact h.2.2.2.2
theorem k_xx {x : Int32} (h : 0 ≤ x) : x = nI x.toNatClampNeg := by
  have h1 : 0 ≤ x.toInt := by
    have := Int32.le_iff_toInt_le.mp h
    simpa using this
  apply Int32.toInt_inj.mp
  have h2 := x.toInt_lt
  unfold nI
  rw [Int32.toInt_ofNat_of_lt (by unfold Int32.toNatClampNeg; omega)]
  unfold Int32.toNatClampNeg
  omega
theorem k_n01 {x : Int32} (h : x = 0 ∨ x = 1) : narrow .boolean (.int x) = .int x := by
  rcases h with rfl | rfl <;> decide
theorem k_f01 {x : Int32} (h : x = 0 ∨ x = 1) : k_fit .boolean x := by
  rcases h with rfl | rfl <;> exact ⟨by decide, by decide⟩
def k_isC (x : Int32) : Bool := decide (narrow .char (.int x) = .int x) && fits .char (.int x)
theorem k_nC {x : Int32} (h : k_isC x = true) : narrow .char (.int x) = .int x := by
  unfold k_isC at h
  rw [Bool.and_eq_true] at h
  exact of_decide_eq_true h.1
theorem k_fC {x : Int32} (h : k_isC x = true) : k_fit .char x := by
  unfold k_isC at h
  rw [Bool.and_eq_true] at h
  exact ⟨of_decide_eq_true h.1, h.2⟩
/-! reads through writes -/
theorem k_I_l {σ : k_S} {l i k l' i' k' : Nat} {v : Int32} (h : l' ≠ l) : k_I (k_uI σ l i k v) l' i' k' = k_I σ l' i' k' := k_up3_n (fun q => h q.1)
theorem k_I_k {σ : k_S} {l i k l' i' k' : Nat} {v : Int32} (h : k' ≠ k) : k_I (k_uI σ l i k v) l' i' k' = k_I σ l' i' k' := k_up3_n (fun q => h q.2.2)
theorem k_I_s {σ : k_S} {l i k : Nat} {v : Int32} : k_I (k_uI σ l i k v) l i k = v := k_up3_s
theorem k_J_l {σ : k_S} {l i k l' i' k' : Nat} {v : Int64} (h : l' ≠ l) : k_J (k_uJ σ l i k v) l' i' k' = k_J σ l' i' k' := k_up3_n (fun q => h q.1)
theorem k_J_s {σ : k_S} {l i k : Nat} {v : Int64} : k_J (k_uJ σ l i k v) l i k = v := k_up3_s
theorem k_P_l {σ : k_S} {l i k l' i' k' : Nat} {v : Option Nat} (h : l' ≠ l) : k_P (k_uP σ l i k v) l' i' k' = k_P σ l' i' k' := k_up3_n (fun q => h q.1)
theorem k_P_k {σ : k_S} {l i k l' i' k' : Nat} {v : Option Nat} (h : k' ≠ k) : k_P (k_uP σ l i k v) l' i' k' = k_P σ l' i' k' := k_up3_n (fun q => h q.2.2)
theorem k_P_s {σ : k_S} {l i k : Nat} {v : Option Nat} : k_P (k_uP σ l i k v) l i k = v := k_up3_s
theorem k_In {σ : k_S} {l l' i' k' : Nat} (h : l' ≠ l) : k_I (k_new σ l) l' i' k' = k_I σ l' i' k' := k_new_I (fun q => h q.1)
theorem k_Jn {σ : k_S} {l l' i' k' : Nat} (h : l' ≠ l) : k_J (k_new σ l) l' i' k' = k_J σ l' i' k' := k_new_J (fun q => h q.1)
theorem k_Pn {σ : k_S} {l l' i' k' : Nat} (h : l' ≠ l) : k_P (k_new σ l) l' i' k' = k_P σ l' i' k' := k_new_P (fun q => h q.1)
theorem k_Zn {σ : k_S} {l l' : Nat} (h : l' ≠ l) : k_Z (k_new σ l) l' = k_Z σ l' := k_new_Z h
theorem k_Nn {σ : k_S} {l l' : Nat} (h : l' ≠ l) : k_N (k_new σ l) l' = k_N σ l' := if_neg h
theorem k_Pa {σ : k_S} {l j l' i' k' : Nat} (h : l' ≠ l) : k_P (k_ladd σ l j) l' i' k' = k_P σ l' i' k' := k_up3_n (fun q => h q.1)
theorem k_Za {σ : k_S} {l j : Nat} : k_Z (k_ladd σ l j) l = k_Z σ l + 1 := if_pos rfl
theorem k_Zal {σ : k_S} {l j l' : Nat} (h : l' ≠ l) : k_Z (k_ladd σ l j) l' = k_Z σ l' := if_neg h
/-! rows -/
theorem r_eqI {X : k_X} {σ : k_S} {k n pc : Nat} {L : List (Option k_AV)} {st : List k_AV} {x y : Int32} (e : x = y) (kk : k_W X σ k n pc L (k_i y :: st)) : k_W X σ k n pc L (k_i x :: st) := by rw [e]; exact kk
theorem r_eqJ {X : k_X} {σ : k_S} {k n pc : Nat} {L : List (Option k_AV)} {st : List k_AV} {x y : Int64} (e : x = y) (kk : k_W X σ k n pc L (k_l y :: st)) : k_W X σ k n pc L (k_l x :: st) := by rw [e]; exact kk
theorem r_lget {X : k_X} {own : String} {cc : ByteArray} {nL : Nat} (h : k_Ok X own cc nL) {la : Launch} (hla : la.flags = flags0) {G : k_G} {σ0 : k_S} {rm0 : Room} {nm : String} (hMe : k_Me X la G σ0 rm0 nm) {σ : k_S} {k n pc : Nat} {L : List (Option k_AV)} {idx l j : Nat} {x : Int32} {rest : List k_AV}
    (hg : 0 ≤ x ∧ x.toNatClampNeg < k_Z σ l ∧ k_Z σ l ≤ 200) (hP : k_P σ l 0 x.toNatClampNeg = some j) (hl : k_isL l = true) (hw : k_ClV own idx yJx4a65c_get_915e3 prog_29_method_20_code 2 (some (.object "java/lang/Object")) 1) (d : decode cc pc = .ok (.invokevirtual idx, 3))
    (hr : 2 + 1 ≤ rm0.frames ∧ 8 + (2 + 11) + 50 ≤ rm0.locals ∧ k ≤ rm0.cells ∧ n ≤ rm0.slots ∧ rest.length ≤ 4) (kk : k_W X σ k n (pc + 3) L (k_p (l - 10) j :: rest)) : k_W X σ k n pc L (k_i x :: k_p l 0 :: rest) := by
  have e := k_xx hg.1
  refine r_callL h hMe (rest := rest) (as := [k_i (nI x.toNatClampNeg)]) (j_get la hla G σ l x.toNatClampNeg j hl hg.2.1 (by omega) hP) hw d (by rw [← e]; rfl) rfl hl rfl ⟨rfl, rfl, hr.1, hr.2.1, hr.2.2.1, hr.2.2.2.1, hr.2.2.2.2⟩ (fun E q => by cases q) (fun r σ' q => ?_)
  cases q
  exact kk
