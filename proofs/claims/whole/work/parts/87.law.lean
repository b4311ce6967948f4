/-! ===== THE LAW'S WALK: its own rows ===== -/
abbrev w_rm : Room := { frames := 21, cells := 603072, slots := 7198825, locals := 10912 }
/-- what holds of the law's run from its start -/
def w_C (X : k_X) (la : Launch) (G : k_G) (σ0 : k_S) (nm : String) (b Ln : Nat) (xs : Nat → Int32) : Prop :=
  la.flags = flags0 ∧ k_Ok X RL cL_law 9 ∧ k_Me X la G σ0 w_rm nm ∧ va_X b Ln xs X.2.2.2.2.1 X.2.2.2.2.1.heap ∧ b < X.2.2.2.2.1.heap.size ∧ ¬ G.2.2.1 ≤ b ∧ Ln ≤ 3072
abbrev w_L (b i : Nat) (u v w : Option k_AV) : List (Option k_AV) := [some (k_r b), some (k_p 0 0), some (k_p 1 0), some (k_p 18 0), some (k_p 19 0), some (k_i (nI i)), u, v, w]
/-- one of the operation's ints -/
theorem w_arg {X : k_X} {la : Launch} {G : k_G} {σ0 : k_S} {nm : String} {b Ln : Nat} {xs : Nat → Int32} (C : w_C X la G σ0 nm b Ln xs) {σ : k_S} {k n pc i : Nat} (c : Nat) {u v w : Option k_AV} {st : List k_AV} {z : Int} (hi : i + c < Ln)
    (d0 : decode cL_law pc = .ok (.aload_n 0, 1)) (d1 : decode cL_law (pc + 1) = .ok (.iload 5, 2)) (d3 : decode cL_law (pc + 3) = .ok (.iconst z, 1)) (hz : Int32.ofInt z = nI c) (d4 : decode cL_law (pc + 4) = .ok (.iadd, 1)) (d5 : decode cL_law (pc + 5) = .ok (.iaload, 1))
    (kk : k_W X σ k n (pc + 6) (w_L b i u v w) (k_i (xs (i + c)) :: st)) : k_W X σ k n pc (w_L b i u v w) st := by
  obtain ⟨hla, h, hMe, hX, hbl, hbA, hLn⟩ := C
  refine r_aload_nR h d0 rfl ?_
  refine r_iload h d1 rfl ?_
  refine r_iconst h d3 hz ?_
  refine r_iadd h d4 ?_
  exact r_sld h hMe hX hbl hbA (nI_add i c) hi (by omega) d5 kk
/-- .. told as 0 or 1 -/
def w_01 (x : Int32) : Int32 := if x = 0 then 0 else 1
theorem w_01_or (x : Int32) : w_01 x = 0 ∨ w_01 x = 1 := by
  unfold w_01
  split
  · exact Or.inl rfl
  · exact Or.inr rfl
theorem w_bool {X : k_X} {la : Launch} {G : k_G} {σ0 : k_S} {nm : String} {b Ln : Nat} {xs : Nat → Int32} (C : w_C X la G σ0 nm b Ln xs) {σ : k_S} {k n pc : Nat} {L : List (Option k_AV)} {st : List k_AV} {x : Int32}
    (d0 : decode cL_law pc = .ok (.ifCond .eq 7, 3)) (d1 : decode cL_law (pc + 3) = .ok (.iconst 1, 1)) (d2 : decode cL_law (pc + 4) = .ok (.goto 4, 3)) (d3 : decode cL_law (pc + 7) = .ok (.iconst 0, 1))
    (kk : k_W X σ k n (pc + 8) L (k_i (w_01 x) :: st)) : k_W X σ k n pc L (k_i x :: st) := by
  obtain ⟨hla, h, hMe, hX, hbl, hbA, hLn⟩ := C
  unfold w_01 at kk
  refine r_if_eq (tgt := pc + 7) h d0 (by omega) (fun c => ?_) (fun c => ?_)
  · rw [if_pos c] at kk
    exact r_iconst h d3 (by decide) kk
  · rw [if_neg c] at kk
    refine r_iconst (v := 1) h d1 (by decide) ?_
    exact r_goto (tgt := pc + 8) h d2 (by omega) kk
def w_TI (p : Nat) (off : Int) : Prop := decode cL_law p = .ok (.istore 7, 2) ∧ decode cL_law (p + 2) = .ok (.aload_n 2, 1) ∧ decode cL_law (p + 3) = .ok (.invokevirtual 129, 3) ∧ decode cL_law (p + 6) = .ok (.iload 6, 2) ∧ decode cL_law (p + 8) = .ok (.if_icmp .eq 5, 3) ∧ decode cL_law (p + 13) = .ok (.iload 6, 2) ∧ decode cL_law (p + 15) = .ok (.ifCond .ne 15, 3) ∧
  decode cL_law (p + 18) = .ok (.aload_n 3, 1) ∧ decode cL_law (p + 19) = .ok (.iconst 0, 1) ∧ decode cL_law (p + 20) = .ok (.laload, 1) ∧ decode cL_law (p + 21) = .ok (.iload 7, 2) ∧ decode cL_law (p + 23) = .ok (.i2l, 1) ∧ decode cL_law (p + 24) = .ok (.lcmp, 1) ∧ decode cL_law (p + 25) = .ok (.ifCond .eq 5, 3) ∧ decode cL_law (p + 30) = .ok (.goto off, 3) ∧ ((p + 30 : Nat) : Int) + off = 2111
def w_TB (p : Nat) (off : Int) : Prop := decode cL_law p = .ok (.istore 7, 2) ∧ decode cL_law (p + 2) = .ok (.aload_n 2, 1) ∧ decode cL_law (p + 3) = .ok (.invokevirtual 129, 3) ∧ decode cL_law (p + 6) = .ok (.iload 6, 2) ∧ decode cL_law (p + 8) = .ok (.if_icmp .eq 5, 3) ∧ decode cL_law (p + 13) = .ok (.iload 6, 2) ∧ decode cL_law (p + 15) = .ok (.ifCond .ne 22, 3) ∧
  decode cL_law (p + 18) = .ok (.aload_n 3, 1) ∧ decode cL_law (p + 19) = .ok (.iconst 0, 1) ∧ decode cL_law (p + 20) = .ok (.laload, 1) ∧ decode cL_law (p + 21) = .ok (.iload 7, 2) ∧ decode cL_law (p + 23) = .ok (.ifCond .eq 7, 3) ∧ decode cL_law (p + 26) = .ok (.lconst 1, 1) ∧ decode cL_law (p + 27) = .ok (.goto 4, 3) ∧ decode cL_law (p + 30) = .ok (.lconst 0, 1) ∧ decode cL_law (p + 31) = .ok (.lcmp, 1) ∧ decode cL_law (p + 32) = .ok (.ifCond .eq 5, 3) ∧ decode cL_law (p + 37) = .ok (.goto off, 3) ∧ ((p + 37 : Nat) : Int) + off = 2111
theorem w_forget {X : k_X} {σ : k_S} {k n pc b i : Nat} {u v w : Option k_AV} {st : List k_AV} (kk : k_W X σ k n pc (w_L b i none none none) st) : k_W X σ k n pc (w_L b i u v w) st :=
  r_forget (L' := w_L b i none none none) (fun j v h => by
    match j with
    | 0 => exact h
    | 1 => exact h
    | 2 => exact h
    | 3 => exact h
    | 4 => exact h
    | 5 => exact h
    | 6 => cases h
    | 7 => cases h
    | 8 => cases h
    | j + 9 => cases h) kk
theorem w_thrown {X : k_X} {la : Launch} {G : k_G} {σ0 : k_S} {nm : String} {b Ln : Nat} {xs : Nat → Int32} (C : w_C X la G σ0 nm b Ln xs) {σ : k_S} {k n p : Nat} {L : List (Option k_AV)} {kx : Int32} (hth : k_I σ 1 0 0 = kx) (hkn : k ≤ 603072 ∧ n ≤ 7198825) (hL2 : L[2]? = some (some (k_p 1 0))) (hL6 : L[6]? = some (some (k_i kx)))
    (d2 : decode cL_law p = .ok (.aload_n 2, 1)) (d3 : decode cL_law (p + 1) = .ok (.invokevirtual 129, 3)) (d6 : decode cL_law (p + 4) = .ok (.iload 6, 2)) (d8 : decode cL_law (p + 6) = .ok (.if_icmp .eq 5, 3)) (d13 : decode cL_law (p + 11) = .ok (.iload 6, 2))
    (kk : k_W X σ k n (p + 13) L [k_i kx]) : k_W X σ k n p L [] := by
  obtain ⟨hla, h, hMe, hX, hbl, hbA, hLn⟩ := C
  refine r_aload_n h d2 hL2 ?_
  refine r_callV h hMe (rest := []) (as := []) (oc := .inl (k_mI kx, σ)) (j_X8_thrown la hla G _ 0 kx (by unfold f_X8_thrown; rw [hth])) kl_L_129 d3 rfl rfl rfl rfl rfl ⟨rfl, rfl, Nat.le_of_ble_eq_true rfl, Nat.le_of_ble_eq_true rfl, hkn.1, hkn.2, Nat.le_of_ble_eq_true rfl⟩ (fun E q => by cases q) (fun r s q => ?_)
  cases q
  show k_W X _ _ _ _ _ [k_i kx]
  refine r_iload h d6 hL6 ?_
  refine r_icmp_eq (tgt := p + 11) h d8 (by omega) (fun _ => ?_) (fun c => absurd rfl c)
  exact r_iload h d13 hL6 kk
theorem w_tail {X : k_X} {la : Launch} {G : k_G} {σ0 : k_S} {nm : String} {b Ln : Nat} {xs : Nat → Int32} (C : w_C X la G σ0 nm b Ln xs) {σ : k_S} {k n p i : Nat} {off : Int} {kx v : Int32} (D : w_TI p off) (hth : k_I σ 1 0 0 = kx) (hv : kx = 0 → k_J σ 18 0 0 = v.toInt64) (hkn : k ≤ 603072 ∧ n ≤ 7198825)
    (K : k_W X σ k n 2111 (w_L b i none none none) []) : k_W X σ k n p (w_L b i (some (k_i kx)) none none) [k_i v] := by
  have h := C.2.1
  obtain ⟨d0, d2, d3, d6, d8, d13, d15, d18, d19, d20, d21, d23, d24, d25, d30, ht⟩ := D
  refine r_istore (L' := w_L b i (some (k_i kx)) (some (k_i v)) none) h d0 (by decide) rfl ?_
  refine w_thrown C hth hkn rfl rfl d2 d3 d6 d8 d13 ?_
  refine r_if_ne (tgt := p + 30) h d15 (by omega) (fun _ => ?_) (fun c => ?_)
  · exact r_goto (tgt := 2111) h d30 ht (w_forget K)
  · refine r_aload_n h d18 rfl ?_
    refine r_iconst (v := 0) h d19 (by decide) ?_
    refine r_laload (y := 0) (t := 0) h d20 rfl rfl rfl (by decide) (by decide) (by decide) ?_
    refine r_iload h d21 rfl ?_
    refine r_i2l h d23 ?_
    refine r_lcmp h d24 ?_
    refine r_if_eq (tgt := p + 30) h d25 (by omega) (fun _ => ?_) (fun c2 => absurd ((lg_cmp_eq _ _).mpr (hv c)) c2)
    exact r_goto (tgt := 2111) h d30 ht (w_forget K)
theorem w_tailB {X : k_X} {la : Launch} {G : k_G} {σ0 : k_S} {nm : String} {b Ln : Nat} {xs : Nat → Int32} (C : w_C X la G σ0 nm b Ln xs) {σ : k_S} {k n p i : Nat} {off : Int} {kx v : Int32} (D : w_TB p off) (hth : k_I σ 1 0 0 = kx) (hv : kx = 0 → k_J σ 18 0 0 = v.toInt64) (h01 : v = 0 ∨ v = 1) (hkn : k ≤ 603072 ∧ n ≤ 7198825)
    (K : k_W X σ k n 2111 (w_L b i none none none) []) : k_W X σ k n p (w_L b i (some (k_i kx)) none none) [k_i v] := by
  have h := C.2.1
  obtain ⟨d0, d2, d3, d6, d8, d13, d15, d18, d19, d20, d21, d23, d26, d27, d30, d31, d32, d37, ht⟩ := D
  refine r_istore (L' := w_L b i (some (k_i kx)) (some (k_i v)) none) h d0 (by decide) rfl ?_
  refine w_thrown C hth hkn rfl rfl d2 d3 d6 d8 d13 ?_
  refine r_if_ne (tgt := p + 37) h d15 (by omega) (fun _ => ?_) (fun c => ?_)
  · exact r_goto (tgt := 2111) h d37 ht (w_forget K)
  · refine r_aload_n h d18 rfl ?_
    refine r_iconst (v := 0) h d19 (by decide) ?_
    refine r_laload (y := 0) (t := 0) h d20 rfl rfl rfl (by decide) (by decide) (by decide) ?_
    refine r_iload h d21 rfl ?_
    have hv := hv c
    refine r_if_eq (tgt := p + 30) h d23 (by omega) (fun c1 => ?_) (fun c1 => ?_)
    · subst c1
      refine r_lconst (v := 0) h d30 (by decide) ?_
      refine r_lcmp h d31 ?_
      refine r_if_eq (tgt := p + 37) h d32 (by omega) (fun _ => ?_) (fun c2 => absurd ((lg_cmp_eq _ _).mpr (hv.trans (by decide))) c2)
      exact r_goto (tgt := 2111) h d37 ht (w_forget K)
    · have c1 : v = 1 := h01.resolve_left c1
      subst c1
      refine r_lconst (v := 1) h d26 (by decide) ?_
      refine r_goto (tgt := p + 31) h d27 (by omega) ?_
      refine r_lcmp h d31 ?_
      refine r_if_eq (tgt := p + 37) h d32 (by omega) (fun _ => ?_) (fun c2 => absurd ((lg_cmp_eq _ _).mpr (hv.trans (by decide))) c2)
      exact r_goto (tgt := 2111) h d37 ht (w_forget K)
