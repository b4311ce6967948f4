/-! ===== exceptions caught ===== -/
theorem k_catch {X : k_X} {own : String} {cc : ByteArray} {nL : Nat} (h : k_Ok X own cc nL) {ret : Option FieldType} {oc : k_Oc} {mc ms : Nat} {hh : List (Nat × Nat × Nat × Nat)} (hEn : k_En X ret oc mc ms hh) {σ : k_S} {k n pc : Nat} {L : List (Option k_AV)} {E : String} (pre suf : List (Nat × Nat × Nat × Nat)) (x : Nat × Nat × Nat × Nat) (hsplit : hh = pre ++ x :: suf)
    (hpass : ∀ z ∈ pre, z.2.2.2 ≠ 0 ∧ ∃ nm ∈ k_exs, E ≠ nm ∧ Cond.classLink own z.2.2.2 nm ∈ k_Tb) (hE : E ∈ k_exs) (hx : x.1 ≤ pc ∧ pc < x.2.1) (h0 : x.2.2.2 ≠ 0) (hlink : Cond.classLink own x.2.2.2 E ∈ k_Tb) (hcas : (E, E) ∈ k_cas)
    (kk : ∀ q : Nat, k_W X σ k n x.2.2.1 L [k_r q]) : k_T X σ k n pc L E := by
  obtain ⟨p, la, e, R, s, m, args, below, meth, c, Q, G, A0, σ0⟩ := X
  obtain ⟨rfl, hret, htab⟩ := hEn
  intro A E' H locs ls rest q ce hR hE' hok hS hlc hce hcv hcl
  obtain ⟨hx9, hb, hml, hown, hts, hKS, hlocks, hfl⟩ := h
  have hNc := hKS.2.2.2.2.2.1
  have hca := hKS.2.2.2.2.2.2.2.2.2.2.2.1
  subst hsplit
  refine vx_catch (own := own) (name := E) (E := E) (ce := ce) hown (tableOf pre) (tableOf [x]).head! (tableOf suf) ?_ ?_ ?_ ?_ ?_ (va_Nw.use rfl (hca _ hcas)) hce hcv hcl ?_
  · rw [htab]
    unfold tableOf
    rw [List.map_append, List.map_cons]
    rfl
  · intro z hz
    unfold tableOf at hz
    obtain ⟨y, hy, rfl⟩ := List.mem_map.mp hz
    obtain ⟨q0, nm, q1, q2, q3⟩ := hpass y hy
    exact Or.inr ⟨q0, nm, hts _ q3, hNc _ hE _ q1 q2⟩
  · show covers _ pc = true
    unfold covers
    simp [tableOf]
    exact hx
  · exact h0
  · exact hts _ hlink
  · exact kk q A E' H locs ls hR hE' hok (fun v hv => by rcases List.mem_singleton.mp hv with rfl; trivial) hS hlc
def k_bc {α β : Type} (x : Option (α ⊕ String)) (K : α → Option β) (Kx : String → Option β) : Option β := match x with
  | none => none
  | some (.inl v) => K v
  | some (.inr e) => Kx e
theorem k_bc_ex {α β : Type} {x : Option (α ⊕ String)} {K : α → Option β} {Kx : String → Option β} {y : β} (h : k_bc x K Kx = some y) : (∃ v, x = some (.inl v) ∧ K v = some y) ∨ ∃ e, x = some (.inr e) ∧ Kx e = some y := by
  match x, h with
  | some (.inl v), h => exact Or.inl ⟨v, rfl, h⟩
  | some (.inr e), h => exact Or.inr ⟨e, rfl, h⟩
