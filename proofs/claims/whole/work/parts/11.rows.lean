/-! ===== THE JUDGEMENT over the world, and a row an instruction (written by wip/whole/gen_rows.py) ===== -/
theorem k_ss {α : Type} {l : List α} {i : Nat} {a b : α} (h : (l.set i a)[i]? = some b) : a = b := by
  by_cases hi : i < l.length
  · rw [List.getElem?_set_self hi] at h
    exact Option.some.inj h
  · rw [List.getElem?_eq_none (by rw [List.length_set]; omega)] at h
    cases h
theorem k_has.st {A : k_A} {L : List (Option k_AV)} {ls' : Array Slot} {nL i : Nat} {v : k_AV} (h : lv_has ls' nL ((i, k_c A v) :: (k_lv A L).filter (fun q => !(q.1 == i) && !(q.1 + 1 == i && q.2.category == 2)))) : k_has A (k_st L i v) ls' nL := by
  refine ⟨h.1, h.2.1, fun j w hj => ?_⟩
  refine h.2.2 (j, k_c A w) ?_
  by_cases hji : j = i
  · subst hji
    unfold k_st at hj
    cases k_ss hj
    exact List.mem_cons_self
  · refine List.mem_cons_of_mem _ (List.mem_filter.mpr ?_)
    unfold k_st at hj
    rw [List.getElem?_set_ne (Ne.symm hji)] at hj
    have hL : L[j]? = some (some w) ∧ (j + 1 = i → k_w (some w) = false) := by
      cases i with
      | zero => exact ⟨hj, fun e => by omega⟩
      | succ i =>
        dsimp only at hj
        by_cases hw : k_w ((L[i]?).join) = true
        · rw [if_pos hw] at hj
          by_cases hij : i = j
          · subst hij
            cases k_ss hj
          · rw [List.getElem?_set_ne hij] at hj
            exact ⟨hj, fun e => absurd (by omega) hij⟩
        · rw [if_neg hw] at hj
          refine ⟨hj, fun e => ?_⟩
          have e2 : j = i := by omega
          subst e2
          rw [hj] at hw
          exact Bool.eq_false_iff.mpr hw
    refine ⟨k_lv_mem.mpr ⟨w, hL.1, rfl⟩, ?_⟩
    simp only [Bool.and_eq_true, Bool.not_eq_true', beq_eq_false_iff_ne, ne_eq, Bool.and_eq_false_iff]
    refine ⟨hji, ?_⟩
    by_cases e : j + 1 = i
    · exact Or.inr (fun q => k_w_cat (A := A) (hL.2 e) q)
    · exact Or.inl e
theorem k_has.st2 {A : k_A} {L : List (Option k_AV)} {ls' : Array Slot} {nL i : Nat} {v : k_AV} (h : lv_has ls' nL ((i, k_c A v) :: (k_lv A L).filter (fun q => !(q.1 == i) && (!(q.1 == i + 1) && !(q.1 + 1 == i && q.2.category == 2))))) : k_has A (k_st2 L i v) ls' nL := by
  refine ⟨h.1, h.2.1, fun j w hj => ?_⟩
  refine h.2.2 (j, k_c A w) ?_
  by_cases hji : j = i
  · subst hji
    unfold k_st2 at hj
    cases k_ss hj
    exact List.mem_cons_self
  · refine List.mem_cons_of_mem _ (List.mem_filter.mpr ?_)
    unfold k_st2 at hj
    rw [List.getElem?_set_ne (Ne.symm hji)] at hj
    by_cases hj1 : i + 1 = j
    · subst hj1
      cases k_ss hj
    rw [List.getElem?_set_ne hj1] at hj
    have hL : L[j]? = some (some w) ∧ (j + 1 = i → k_w (some w) = false) := by
      cases i with
      | zero => exact ⟨hj, fun e => by omega⟩
      | succ i =>
        dsimp only at hj
        by_cases hw : k_w ((L[i]?).join) = true
        · rw [if_pos hw] at hj
          by_cases hij : i = j
          · subst hij
            cases k_ss hj
          · rw [List.getElem?_set_ne hij] at hj
            exact ⟨hj, fun e => absurd (by omega) hij⟩
        · rw [if_neg hw] at hj
          refine ⟨hj, fun e => ?_⟩
          have e2 : j = i := by omega
          subst e2
          rw [hj] at hw
          exact Bool.eq_false_iff.mpr hw
    refine ⟨k_lv_mem.mpr ⟨w, hL.1, rfl⟩, ?_⟩
    simp only [Bool.and_eq_true, Bool.not_eq_true', beq_eq_false_iff_ne, ne_eq, Bool.and_eq_false_iff]
    refine ⟨hji, fun q => hj1 q.symm, ?_⟩
    by_cases e : j + 1 = i
    · exact Or.inr (fun q => k_w_cat (A := A) (hL.2 e) q)
    · exact Or.inl e
theorem k_okL.set {σ : k_S} {L : List (Option k_AV)} {i : Nat} {v : Option k_AV} (h : k_okL σ L) (hv : ∀ w, v = some w → k_ok σ w) : k_okL σ (L.set i v) := fun w hw => by
  rcases List.mem_or_eq_of_mem_set hw with h1 | h1
  · exact h w h1
  · exact hv w h1.symm
theorem k_okL.st {σ : k_S} {L : List (Option k_AV)} {i : Nat} {v : k_AV} (h : k_okL σ L) (hv : k_ok σ v) : k_okL σ (k_st L i v) := by
  unfold k_st
  refine k_okL.set ?_ (fun w e => by cases e; exact hv)
  split
  · exact h
  · split
    · exact h.set (fun w e => nomatch e)
    · exact h
theorem k_okL.st2 {σ : k_S} {L : List (Option k_AV)} {i : Nat} {v : k_AV} (h : k_okL σ L) (hv : k_ok σ v) : k_okL σ (k_st2 L i v) := by
  unfold k_st2
  refine k_okL.set (k_okL.set ?_ (fun w e => nomatch e)) (fun w e => by cases e; exact hv)
  split
  · exact h
  · split
    · exact h.set (fun w e => nomatch e)
    · exact h
/-- a method's run: the program, the launch, .., what is owed at its end, what is fixed, the addresses and the state at its start -/
abbrev k_X : Type := Program × Launch × Env × Room × State × MethodId × Array Value × List Frame × Method × Code × (State → Prop) × k_G × k_A × k_S
/-- 'from here, with this state, so many cells and slots made, at pc, with these locals and this stack, the end is reached' -/
def k_W : k_X → k_S → Nat → Nat → Nat → List (Option k_AV) → List k_AV → Prop
  | (p, l, e, R, s, m, args, below, meth, c, Q, G, A0, σ0), σ, k, n, pc, L, st =>
    ∀ (A : k_A) (E : Nat → Nat) (H : Heap) (locs : List Loc) (ls : Array Slot), k_HR G A E σ H → k_Ext A0 A σ0 σ → k_okL σ L → k_oks σ st → va_S (fun q => G.2.2.1 ≤ q) s.heap H locs → k_has A L ls c.maxLocals →
      W p l e R s m args below meth c H locs k n Q (F0 m pc ls (st.map (k_c A)))
/-- .. with an exception of class E thrown at pc -/
def k_T : k_X → k_S → Nat → Nat → Nat → List (Option k_AV) → String → Prop
  | (p, l, e, R, s, m, args, below, meth, c, Q, G, A0, σ0), σ, k, n, pc, L, X =>
    ∀ (A : k_A) (E : Nat → Nat) (H : Heap) (locs : List Loc) (ls : Array Slot) (rest : List Value) (q : Addr) (ce : Cell), k_HR G A E σ H → k_Ext A0 A σ0 σ → k_okL σ L → va_S (fun q => G.2.2.1 ≤ q) s.heap H locs → k_has A L ls c.maxLocals →
      H[q]? = some ce → ce.vm = .none → s.vm.findClass X = some ce.cls → vx_W p l e R s m args below meth c H locs k n Q (F0 m pc ls rest) q

theorem k_cat1 {A : k_A} {v : k_AV} (h : k_w (some v) = false) : (k_c A v).category = 1 := by
  have := k_w_cat (A := A) h
  rcases lv_cat (k_c A v) with q | q
  · exact q
  · exact absurd q this
/-- the texts of exceptions, each by its class and entry -/
abbrev k_txt : List (String × Nat × String) := [("PrecedentHall", 309, "a number is out of range"), ("PrecedentHall", 311, "there are as many as there can be"), ("PrecedentHall", 315, "there is none with this number"), ("PrecedentHall", 88, "the day of the repeal was told before"), ("PrecedentHall", 114, "no rule applies"), ("PrecedentHall", 141, "the user is not sanctioned"), ("PrecedentHall", 165, "reporter and accused are the same"), ("PrecedentHall", 318, "the report is decided"), ("PrecedentHall", 201, "the user is a party"), ("PrecedentHall", 204, "the user is sanctioned"), ("PrecedentHall", 219, "there is no precedent"), ("PrecedentHall", 221, "the votes are less than the quorum"), ("PrecedentHall", 320, "no decision stands"), ("PrecedentHall", 240, "the report is not decided"), ("PrecedentHall", 246, "the report was under appeal before"), ("PrecedentHall", 273, "the days end before"), ("PrecedentHall", 291, "no such kind of reports"), ("PrecedentHall", 295, "no report stands as guilty"), ("PrecedentHall", 304, "no new decision on appeal")]
/-- the exceptions' classes: no two of them are castable -/
abbrev k_exs : List String := ["java/lang/IllegalArgumentException", "java/lang/IllegalStateException", "java/lang/IndexOutOfBoundsException", "java/util/NoSuchElementException", "java/lang/UnsupportedOperationException", "java/lang/ArithmeticException"]
/-- words of the tables that speak of classes alone, carried by themselves -/
abbrev k_cas : List (String × String) := [("java/lang/IllegalArgumentException", "java/lang/IllegalArgumentException"), ("java/lang/IllegalStateException", "java/lang/IllegalStateException"), ("java/lang/ArrayIndexOutOfBoundsException", "java/lang/ArrayIndexOutOfBoundsException"), ("java/lang/IndexOutOfBoundsException", "java/lang/IndexOutOfBoundsException"), ("java/util/NoSuchElementException", "java/util/NoSuchElementException"), ("java/lang/UnsupportedOperationException", "java/lang/UnsupportedOperationException"), ("java/lang/ArithmeticException", "java/lang/ArithmeticException"), ("java/lang/ArrayIndexOutOfBoundsException", "java/lang/IndexOutOfBoundsException"), ("PrecedentHall", "java/lang/Object"), ("java/util/ArrayList", "java/lang/Object"), ("PrecedentHall$Standing", "java/lang/Object"), ("PrecedentHallModel", "java/lang/Object"), ("java/lang/IllegalArgumentException", "java/lang/Object"), ("java/lang/IllegalStateException", "java/lang/Object"), ("PrecedentHall$Rule", "java/lang/Object"), ("java/lang/ArrayIndexOutOfBoundsException", "java/lang/Object"), ("java/lang/IndexOutOfBoundsException", "java/lang/Object"), ("java/util/NoSuchElementException", "java/lang/Object"), ("PrecedentHall$User", "java/lang/Object"), ("PrecedentHall$Bot", "java/lang/Object"), ("PrecedentHall$Report", "java/lang/Object"), ("PrecedentHall$Entry", "java/lang/Object"), ("PrecedentHall$Sanction", "java/lang/Object"), ("java/lang/UnsupportedOperationException", "java/lang/Object"), ("java/lang/ArithmeticException", "java/lang/Object"), ("java/lang/Throwable", "java/lang/Object"), ("java/lang/String", "java/lang/Object"), ("[C", "java/lang/Object"), ("[I", "java/lang/Object"), ("[B", "java/lang/Object"), ("[Ljava/lang/Object;", "java/lang/Object"), ("[[I", "java/lang/Object"), ("[Z", "java/lang/Object"), ("[J", "java/lang/Object"), ("[D", "java/lang/Object")]
abbrev k_dec : List MethodName := [{ cls := "java/lang/RuntimeException", name := "<init>", desc := "()V" }, { cls := "java/lang/RuntimeException", name := "<init>", desc := "(Ljava/lang/String;)V" }, { cls := "java/lang/Exception", name := "<init>", desc := "()V" }, { cls := "java/lang/Exception", name := "<init>", desc := "(Ljava/lang/String;)V" }, { cls := "java/lang/Throwable", name := "<init>", desc := "()V" }, { cls := "java/lang/Throwable", name := "<init>", desc := "(Ljava/lang/String;)V" }, { cls := "java/lang/IndexOutOfBoundsException", name := "<init>", desc := "()V" }, { cls := "java/lang/IndexOutOfBoundsException", name := "<init>", desc := "(Ljava/lang/String;)V" }, { cls := "java/lang/Object", name := "getClass", desc := "()Ljava/lang/Class;" }]
/-- what is fixed, at a state -/
def k_KS (G : k_G) (s : State) : Prop :=
  va_K G.1 k_cl (k_tys G.2.1) s ∧ G.2.2.1 ≤ s.heap.size ∧
  vx_Zq Bundle.tN "UNASSIGNED_STACK" Bundle.steD (fun q => G.2.2.1 ≤ q) s s.heap ∧ vx_Zq Bundle.tN "SUPPRESSED_SENTINEL" Bundle.listD (fun q => G.2.2.1 ≤ q) s s.heap ∧
  (∀ j q, k_txt[j]? = some q → vk_R q.1 q.2.1 q.2.2 (G.2.2.2.2.1 j) s) ∧ (∀ a ∈ k_exs, ∀ b ∈ k_exs, a ≠ b → va_Nc a b s) ∧
  va_Z "java/util/ArrayList" "DEFAULTCAPACITY_EMPTY_ELEMENTDATA" "[Ljava/lang/Object;" (.ref G.2.2.2.1) (fun q => G.2.2.1 ≤ q) s s.heap ∧ (s.heap[G.2.2.2.1]? = some G.2.2.2.2.2 ∧ s.isArrayOf G.2.2.2.2.2 (.object "java/lang/Object") ∧ k_EA G) ∧ G.2.2.2.1 < G.2.2.1 ∧ va_Mi "[Ljava/lang/Object;" (G.2.2.2.2.1 1000) s ∧ va_AO "java/lang/Object" s ∧ (∀ q ∈ k_cas, va_Nw (.castable q.1 q.2) s) ∧ ∀ x ∈ k_dec, va_Nw (.declares x) s
theorem k_KS.call {G : k_G} {s U : State} {H : Heap} {locs : List Loc} (h : k_KS G s) (hW : s.WarmedH U.vm) (hU : U.heap = H) (hS : va_S (fun q => G.2.2.1 ≤ q) s.heap H locs) : k_KS G U := by
  obtain ⟨h1, h2, h3, h4, h5, h6, h7, h8, h9, h10, h11, h12, h13⟩ := h
  have hk : ∀ a : Nat, a < s.heap.size → ¬ G.2.2.1 ≤ a → U.heap[a]? = s.heap[a]? := fun a ha hn => by rw [hU]; exact hS.2.1 a ha hn
  refine ⟨va_K.moved hW.alike h1, by rw [hU]; exact Nat.le_trans h2 hS.1, vx_Zq.moved hW.alike (h3.kept hk), vx_Zq.moved hW.alike (h4.kept hk), fun j q hq => vk_R.warm hW (h5 j q hq), fun a ha b hb hab => va_Nc.moved hW.alike (h6 a ha b hb hab), va_Z.moved hW.alike (h7.kept hk), ⟨?_, State.isArrayOf_alike hW.alike h8.2.1, h8.2.2⟩, h9, va_Mi.moved hW.alike h10, va_AO.moved hW.alike h11, fun q hq => va_Nw.warmC hW (h12 q hq), fun x hx => va_Nw.warmD hW (h13 x hx)⟩
  rw [hk _ (Nat.lt_of_lt_of_le h9 h2) (Nat.not_le.mpr h9)]
  exact h8.1
theorem k_KS.ea {G : k_G} {s : State} (h : k_KS G s) : k_EA G := h.2.2.2.2.2.2.2.1.2.2
/-- the array of a list is an array of Objects -/
theorem k_avT {G : k_G} {s : State} (h : k_KS G s) (cap : Nat) (f : Nat → Value) : s.isArrayOf (k_av G cap f) (.object "java/lang/Object") := by
  by_cases c : cap = 0
  · subst c
    rw [k_av_0]
    exact h.2.2.2.2.2.2.2.1.2.1
  · rw [k_av_n (by omega)]
    exact (h.1.2 5 _ rfl).1 cap f
theorem k_KS.blind {G : k_G} {U : State} {g : JFrame} {mk : MethodId} {a : Array Value} (h : k_KS G U) : k_KS G (U.calling g mk a) :=
  k_KS.call (H := U.heap) (locs := []) h (State.WarmedH.refl U) rfl va_S.rf
/-- what holds of a method's run from its start: the machine, the code, who owns it, the tables' words, the fixed things -/
def k_Ok : k_X → String → ByteArray → Nat → Prop
  | (p, l, e, R, s, m, args, below, meth, c, Q, G, A0, σ0), own, cc, nL =>
    p.tables.exec = Jvm.exec ∧ c.code = cc ∧ c.maxLocals = nL ∧ s.vm.findClass own = some m.cls ∧ (∀ w ∈ k_Tb, w.before args s = true) ∧ k_KS G s ∧ meth.locks = false ∧ l.flags = flags0
theorem r_iconst {X : k_X} {own : String} {cc : ByteArray} {nL : Nat} (h : k_Ok X own cc nL) {σ : k_S} {k n pc : Nat} {L : List (Option k_AV)} {st : List k_AV} {z : Int} {v : Int32} (d : decode cc pc = .ok (.iconst z, 1)) (hv : Int32.ofInt z = v) (kk : k_W X σ k n (pc + 1) L (k_i v :: st)) : k_W X σ k n pc L (st) := by
  obtain ⟨p, l, e, R, s, m, args, below, meth, c, Q, G, A0, σ0⟩ := X
  intro A E H locs ls hR hE hok hos hS hl
  exact lv_iconst h.1 h.2.1 d hv (kk A E H locs ls hR hE hok (hos.cons trivial) hS hl)
theorem r_bipush {X : k_X} {own : String} {cc : ByteArray} {nL : Nat} (h : k_Ok X own cc nL) {σ : k_S} {k n pc : Nat} {L : List (Option k_AV)} {st : List k_AV} {z : Int} {v : Int32} (d : decode cc pc = .ok (.bipush z, 2)) (hv : (Int8.ofInt z).toInt32 = v) (kk : k_W X σ k n (pc + 2) L (k_i v :: st)) : k_W X σ k n pc L (st) := by
  obtain ⟨p, l, e, R, s, m, args, below, meth, c, Q, G, A0, σ0⟩ := X
  intro A E H locs ls hR hE hok hos hS hl
  exact lv_bipush h.1 h.2.1 d hv (kk A E H locs ls hR hE hok (hos.cons trivial) hS hl)
theorem r_sipush {X : k_X} {own : String} {cc : ByteArray} {nL : Nat} (h : k_Ok X own cc nL) {σ : k_S} {k n pc : Nat} {L : List (Option k_AV)} {st : List k_AV} {z : Int} {v : Int32} (d : decode cc pc = .ok (.sipush z, 3)) (hv : (Int16.ofInt z).toInt32 = v) (kk : k_W X σ k n (pc + 3) L (k_i v :: st)) : k_W X σ k n pc L (st) := by
  obtain ⟨p, l, e, R, s, m, args, below, meth, c, Q, G, A0, σ0⟩ := X
  intro A E H locs ls hR hE hok hos hS hl
  exact lv_sipush h.1 h.2.1 d hv (kk A E H locs ls hR hE hok (hos.cons trivial) hS hl)
theorem r_lconst {X : k_X} {own : String} {cc : ByteArray} {nL : Nat} (h : k_Ok X own cc nL) {σ : k_S} {k n pc : Nat} {L : List (Option k_AV)} {st : List k_AV} {z : Fin 2} {v : Int64} (d : decode cc pc = .ok (.lconst z, 1)) (hv : Int64.ofNat (z : Nat) = v) (kk : k_W X σ k n (pc + 1) L (k_l v :: st)) : k_W X σ k n pc L (st) := by
  obtain ⟨p, l, e, R, s, m, args, below, meth, c, Q, G, A0, σ0⟩ := X
  intro A E H locs ls hR hE hok hos hS hl
  exact lv_lconst h.1 h.2.1 d hv (kk A E H locs ls hR hE hok (hos.cons trivial) hS hl)
theorem r_null {X : k_X} {own : String} {cc : ByteArray} {nL : Nat} (h : k_Ok X own cc nL) {σ : k_S} {k n pc : Nat} {L : List (Option k_AV)} {st : List k_AV}  (d : decode cc pc = .ok (.aconst_null, 1))  (kk : k_W X σ k n (pc + 1) L (k_n :: st)) : k_W X σ k n pc L (st) := by
  obtain ⟨p, l, e, R, s, m, args, below, meth, c, Q, G, A0, σ0⟩ := X
  intro A E H locs ls hR hE hok hos hS hl
  exact lv_null h.1 h.2.1 d (kk A E H locs ls hR hE hok (hos.cons trivial) hS hl)
theorem r_iload_n {X : k_X} {own : String} {cc : ByteArray} {nL : Nat} (h : k_Ok X own cc nL) {σ : k_S} {k n pc : Nat} {L : List (Option k_AV)} {st : List k_AV} {z : Fin 4} {x : Int32} (d : decode cc pc = .ok (.iload_n z, 1)) (hL : L[(z : Nat)]? = some (some (k_i x))) (kk : k_W X σ k n (pc + 1) L (k_i x :: st)) : k_W X σ k n pc L (st) := by
  obtain ⟨p, l, e, R, s, m, args, below, meth, c, Q, G, A0, σ0⟩ := X
  intro A E H locs ls hR hE hok hos hS hl
  exact lv_iload_n h.1 h.2.1 d rfl (hl.2.2 _ _ hL) (kk A E H locs ls hR hE hok (hos.cons trivial) hS hl)
theorem r_lload_n {X : k_X} {own : String} {cc : ByteArray} {nL : Nat} (h : k_Ok X own cc nL) {σ : k_S} {k n pc : Nat} {L : List (Option k_AV)} {st : List k_AV} {z : Fin 4} {x : Int64} (d : decode cc pc = .ok (.lload_n z, 1)) (hL : L[(z : Nat)]? = some (some (k_l x))) (kk : k_W X σ k n (pc + 1) L (k_l x :: st)) : k_W X σ k n pc L (st) := by
  obtain ⟨p, l, e, R, s, m, args, below, meth, c, Q, G, A0, σ0⟩ := X
  intro A E H locs ls hR hE hok hos hS hl
  exact lv_lload_n h.1 h.2.1 d rfl (hl.2.2 _ _ hL) (kk A E H locs ls hR hE hok (hos.cons trivial) hS hl)
theorem r_fload_n {X : k_X} {own : String} {cc : ByteArray} {nL : Nat} (h : k_Ok X own cc nL) {σ : k_S} {k n pc : Nat} {L : List (Option k_AV)} {st : List k_AV} {z : Fin 4} {x : UInt32} (d : decode cc pc = .ok (.fload_n z, 1)) (hL : L[(z : Nat)]? = some (some (k_f x))) (kk : k_W X σ k n (pc + 1) L (k_f x :: st)) : k_W X σ k n pc L (st) := by
  obtain ⟨p, l, e, R, s, m, args, below, meth, c, Q, G, A0, σ0⟩ := X
  intro A E H locs ls hR hE hok hos hS hl
  exact lv_fload_n h.1 h.2.1 d rfl (hl.2.2 _ _ hL) (kk A E H locs ls hR hE hok (hos.cons trivial) hS hl)
theorem r_dload_n {X : k_X} {own : String} {cc : ByteArray} {nL : Nat} (h : k_Ok X own cc nL) {σ : k_S} {k n pc : Nat} {L : List (Option k_AV)} {st : List k_AV} {z : Fin 4} {x : UInt64} (d : decode cc pc = .ok (.dload_n z, 1)) (hL : L[(z : Nat)]? = some (some (k_d x))) (kk : k_W X σ k n (pc + 1) L (k_d x :: st)) : k_W X σ k n pc L (st) := by
  obtain ⟨p, l, e, R, s, m, args, below, meth, c, Q, G, A0, σ0⟩ := X
  intro A E H locs ls hR hE hok hos hS hl
  exact lv_dload_n h.1 h.2.1 d rfl (hl.2.2 _ _ hL) (kk A E H locs ls hR hE hok (hos.cons trivial) hS hl)
theorem r_aload_n {X : k_X} {own : String} {cc : ByteArray} {nL : Nat} (h : k_Ok X own cc nL) {σ : k_S} {k n pc : Nat} {L : List (Option k_AV)} {st : List k_AV} {z : Fin 4} {q : Nat × Nat} (d : decode cc pc = .ok (.aload_n z, 1)) (hL : L[(z : Nat)]? = some (some (.inr q))) (kk : k_W X σ k n (pc + 1) L (.inr q :: st)) : k_W X σ k n pc L (st) := by
  obtain ⟨p, l, e, R, s, m, args, below, meth, c, Q, G, A0, σ0⟩ := X
  intro A E H locs ls hR hE hok hos hS hl
  exact lv_aload_n h.1 h.2.1 d rfl (hl.2.2 _ _ hL) (kk A E H locs ls hR hE hok (hos.cons (hok _ (List.mem_of_getElem? hL))) hS hl)
theorem r_aload_nR {X : k_X} {own : String} {cc : ByteArray} {nL : Nat} (h : k_Ok X own cc nL) {σ : k_S} {k n pc : Nat} {L : List (Option k_AV)} {st : List k_AV} {z : Fin 4} {x : Nat} (d : decode cc pc = .ok (.aload_n z, 1)) (hL : L[(z : Nat)]? = some (some (k_r x))) (kk : k_W X σ k n (pc + 1) L (k_r x :: st)) : k_W X σ k n pc L (st) := by
  obtain ⟨p, l, e, R, s, m, args, below, meth, c, Q, G, A0, σ0⟩ := X
  intro A E H locs ls hR hE hok hos hS hl
  exact lv_aload_n h.1 h.2.1 d rfl (hl.2.2 _ _ hL) (kk A E H locs ls hR hE hok (hos.cons trivial) hS hl)
theorem r_aload_nN {X : k_X} {own : String} {cc : ByteArray} {nL : Nat} (h : k_Ok X own cc nL) {σ : k_S} {k n pc : Nat} {L : List (Option k_AV)} {st : List k_AV} {z : Fin 4} (d : decode cc pc = .ok (.aload_n z, 1)) (hL : L[(z : Nat)]? = some (some k_n)) (kk : k_W X σ k n (pc + 1) L (k_n :: st)) : k_W X σ k n pc L (st) := by
  obtain ⟨p, l, e, R, s, m, args, below, meth, c, Q, G, A0, σ0⟩ := X
  intro A E H locs ls hR hE hok hos hS hl
  exact lv_aload_nN h.1 h.2.1 d rfl (hl.2.2 _ _ hL) (kk A E H locs ls hR hE hok (hos.cons trivial) hS hl)
theorem r_iload {X : k_X} {own : String} {cc : ByteArray} {nL : Nat} (h : k_Ok X own cc nL) {σ : k_S} {k n pc : Nat} {L : List (Option k_AV)} {st : List k_AV} {z : Nat} {x : Int32} (d : decode cc pc = .ok (.iload z, 2)) (hL : L[z]? = some (some (k_i x))) (kk : k_W X σ k n (pc + 2) L (k_i x :: st)) : k_W X σ k n pc L (st) := by
  obtain ⟨p, l, e, R, s, m, args, below, meth, c, Q, G, A0, σ0⟩ := X
  intro A E H locs ls hR hE hok hos hS hl
  exact lv_iload h.1 h.2.1 d (hl.2.2 _ _ hL) (kk A E H locs ls hR hE hok (hos.cons trivial) hS hl)
theorem r_lload {X : k_X} {own : String} {cc : ByteArray} {nL : Nat} (h : k_Ok X own cc nL) {σ : k_S} {k n pc : Nat} {L : List (Option k_AV)} {st : List k_AV} {z : Nat} {x : Int64} (d : decode cc pc = .ok (.lload z, 2)) (hL : L[z]? = some (some (k_l x))) (kk : k_W X σ k n (pc + 2) L (k_l x :: st)) : k_W X σ k n pc L (st) := by
  obtain ⟨p, l, e, R, s, m, args, below, meth, c, Q, G, A0, σ0⟩ := X
  intro A E H locs ls hR hE hok hos hS hl
  exact lv_lload h.1 h.2.1 d (hl.2.2 _ _ hL) (kk A E H locs ls hR hE hok (hos.cons trivial) hS hl)
theorem r_fload {X : k_X} {own : String} {cc : ByteArray} {nL : Nat} (h : k_Ok X own cc nL) {σ : k_S} {k n pc : Nat} {L : List (Option k_AV)} {st : List k_AV} {z : Nat} {x : UInt32} (d : decode cc pc = .ok (.fload z, 2)) (hL : L[z]? = some (some (k_f x))) (kk : k_W X σ k n (pc + 2) L (k_f x :: st)) : k_W X σ k n pc L (st) := by
  obtain ⟨p, l, e, R, s, m, args, below, meth, c, Q, G, A0, σ0⟩ := X
  intro A E H locs ls hR hE hok hos hS hl
  exact lv_fload h.1 h.2.1 d (hl.2.2 _ _ hL) (kk A E H locs ls hR hE hok (hos.cons trivial) hS hl)
theorem r_dload {X : k_X} {own : String} {cc : ByteArray} {nL : Nat} (h : k_Ok X own cc nL) {σ : k_S} {k n pc : Nat} {L : List (Option k_AV)} {st : List k_AV} {z : Nat} {x : UInt64} (d : decode cc pc = .ok (.dload z, 2)) (hL : L[z]? = some (some (k_d x))) (kk : k_W X σ k n (pc + 2) L (k_d x :: st)) : k_W X σ k n pc L (st) := by
  obtain ⟨p, l, e, R, s, m, args, below, meth, c, Q, G, A0, σ0⟩ := X
  intro A E H locs ls hR hE hok hos hS hl
  exact lv_dload h.1 h.2.1 d (hl.2.2 _ _ hL) (kk A E H locs ls hR hE hok (hos.cons trivial) hS hl)
theorem r_aload {X : k_X} {own : String} {cc : ByteArray} {nL : Nat} (h : k_Ok X own cc nL) {σ : k_S} {k n pc : Nat} {L : List (Option k_AV)} {st : List k_AV} {z : Nat} {q : Nat × Nat} (d : decode cc pc = .ok (.aload z, 2)) (hL : L[z]? = some (some (.inr q))) (kk : k_W X σ k n (pc + 2) L (.inr q :: st)) : k_W X σ k n pc L (st) := by
  obtain ⟨p, l, e, R, s, m, args, below, meth, c, Q, G, A0, σ0⟩ := X
  intro A E H locs ls hR hE hok hos hS hl
  exact lv_aload h.1 h.2.1 d (hl.2.2 _ _ hL) (kk A E H locs ls hR hE hok (hos.cons (hok _ (List.mem_of_getElem? hL))) hS hl)
theorem r_aloadR {X : k_X} {own : String} {cc : ByteArray} {nL : Nat} (h : k_Ok X own cc nL) {σ : k_S} {k n pc : Nat} {L : List (Option k_AV)} {st : List k_AV} {z : Nat} {x : Nat} (d : decode cc pc = .ok (.aload z, 2)) (hL : L[z]? = some (some (k_r x))) (kk : k_W X σ k n (pc + 2) L (k_r x :: st)) : k_W X σ k n pc L (st) := by
  obtain ⟨p, l, e, R, s, m, args, below, meth, c, Q, G, A0, σ0⟩ := X
  intro A E H locs ls hR hE hok hos hS hl
  exact lv_aload h.1 h.2.1 d (hl.2.2 _ _ hL) (kk A E H locs ls hR hE hok (hos.cons trivial) hS hl)
theorem r_aloadN {X : k_X} {own : String} {cc : ByteArray} {nL : Nat} (h : k_Ok X own cc nL) {σ : k_S} {k n pc : Nat} {L : List (Option k_AV)} {st : List k_AV} {z : Nat} (d : decode cc pc = .ok (.aload z, 2)) (hL : L[z]? = some (some k_n)) (kk : k_W X σ k n (pc + 2) L (k_n :: st)) : k_W X σ k n pc L (st) := by
  obtain ⟨p, l, e, R, s, m, args, below, meth, c, Q, G, A0, σ0⟩ := X
  intro A E H locs ls hR hE hok hos hS hl
  exact lv_aloadN h.1 h.2.1 d (hl.2.2 _ _ hL) (kk A E H locs ls hR hE hok (hos.cons trivial) hS hl)
theorem r_istore_n {X : k_X} {own : String} {cc : ByteArray} {nL : Nat} (h : k_Ok X own cc nL) {σ : k_S} {k n pc : Nat} {L : List (Option k_AV)} {st : List k_AV} {z : Fin 4} {x : Int32} {L' : List (Option k_AV)} (d : decode cc pc = .ok (.istore_n z, 1)) (hn : (z : Nat) < nL) (hL : k_st L (z : Nat) (k_i x) = L') (kk : k_W X σ k n (pc + 1) L' st) : k_W X σ k n pc L (k_i x :: st) := by
  subst hL
  obtain ⟨p, l, e, R, s, m, args, below, meth, c, Q, G, A0, σ0⟩ := X
  intro A E H locs ls hR hE hok hos hS hl
  refine lv_istore_n h.1 h.2.1 d rfl hl.lv (by rw [h.2.2.1]; exact hn) rfl (fun ls' h9 => kk A E H locs ls' hR hE (hok.st trivial) hos.tail hS (k_has.st (v := k_i x) h9))
theorem r_lstore_n {X : k_X} {own : String} {cc : ByteArray} {nL : Nat} (h : k_Ok X own cc nL) {σ : k_S} {k n pc : Nat} {L : List (Option k_AV)} {st : List k_AV} {z : Fin 4} {x : Int64} {L' : List (Option k_AV)} (d : decode cc pc = .ok (.lstore_n z, 1)) (hn : (z : Nat) + 1 < nL) (hL : k_st2 L (z : Nat) (k_l x) = L') (kk : k_W X σ k n (pc + 1) L' st) : k_W X σ k n pc L (k_l x :: st) := by
  subst hL
  obtain ⟨p, l, e, R, s, m, args, below, meth, c, Q, G, A0, σ0⟩ := X
  intro A E H locs ls hR hE hok hos hS hl
  refine lv_lstore_n h.1 h.2.1 d rfl hl.lv (by rw [h.2.2.1]; exact hn) rfl (fun ls' h9 => kk A E H locs ls' hR hE (hok.st2 trivial) hos.tail hS (k_has.st2 (v := k_l x) h9))
theorem r_fstore_n {X : k_X} {own : String} {cc : ByteArray} {nL : Nat} (h : k_Ok X own cc nL) {σ : k_S} {k n pc : Nat} {L : List (Option k_AV)} {st : List k_AV} {z : Fin 4} {x : UInt32} {L' : List (Option k_AV)} (d : decode cc pc = .ok (.fstore_n z, 1)) (hn : (z : Nat) < nL) (hL : k_st L (z : Nat) (k_f x) = L') (kk : k_W X σ k n (pc + 1) L' st) : k_W X σ k n pc L (k_f x :: st) := by
  subst hL
  obtain ⟨p, l, e, R, s, m, args, below, meth, c, Q, G, A0, σ0⟩ := X
  intro A E H locs ls hR hE hok hos hS hl
  refine lv_fstore_n h.1 h.2.1 d rfl hl.lv (by rw [h.2.2.1]; exact hn) rfl (fun ls' h9 => kk A E H locs ls' hR hE (hok.st trivial) hos.tail hS (k_has.st (v := k_f x) h9))
theorem r_dstore_n {X : k_X} {own : String} {cc : ByteArray} {nL : Nat} (h : k_Ok X own cc nL) {σ : k_S} {k n pc : Nat} {L : List (Option k_AV)} {st : List k_AV} {z : Fin 4} {x : UInt64} {L' : List (Option k_AV)} (d : decode cc pc = .ok (.dstore_n z, 1)) (hn : (z : Nat) + 1 < nL) (hL : k_st2 L (z : Nat) (k_d x) = L') (kk : k_W X σ k n (pc + 1) L' st) : k_W X σ k n pc L (k_d x :: st) := by
  subst hL
  obtain ⟨p, l, e, R, s, m, args, below, meth, c, Q, G, A0, σ0⟩ := X
  intro A E H locs ls hR hE hok hos hS hl
  refine lv_dstore_n h.1 h.2.1 d rfl hl.lv (by rw [h.2.2.1]; exact hn) rfl (fun ls' h9 => kk A E H locs ls' hR hE (hok.st2 trivial) hos.tail hS (k_has.st2 (v := k_d x) h9))
theorem r_astore_n {X : k_X} {own : String} {cc : ByteArray} {nL : Nat} (h : k_Ok X own cc nL) {σ : k_S} {k n pc : Nat} {L : List (Option k_AV)} {st : List k_AV} {z : Fin 4} {q : Nat × Nat} {L' : List (Option k_AV)} (d : decode cc pc = .ok (.astore_n z, 1)) (hn : (z : Nat) < nL) (hL : k_st L (z : Nat) (.inr q) = L') (kk : k_W X σ k n (pc + 1) L' st) : k_W X σ k n pc L (.inr q :: st) := by
  subst hL
  obtain ⟨p, l, e, R, s, m, args, below, meth, c, Q, G, A0, σ0⟩ := X
  intro A E H locs ls hR hE hok hos hS hl
  refine lv_astore_n h.1 h.2.1 d rfl hl.lv (by rw [h.2.2.1]; exact hn) rfl (fun ls' h9 => kk A E H locs ls' hR hE (hok.st hos.head) hos.tail hS (k_has.st (v := .inr q) h9))
theorem r_astore_nR {X : k_X} {own : String} {cc : ByteArray} {nL : Nat} (h : k_Ok X own cc nL) {σ : k_S} {k n pc : Nat} {L : List (Option k_AV)} {st : List k_AV} {z : Fin 4} {x : Nat} {L' : List (Option k_AV)} (d : decode cc pc = .ok (.astore_n z, 1)) (hn : (z : Nat) < nL) (hL : k_st L (z : Nat) (k_r x) = L') (kk : k_W X σ k n (pc + 1) L' st) : k_W X σ k n pc L (k_r x :: st) := by
  subst hL
  obtain ⟨p, l, e, R, s, m, args, below, meth, c, Q, G, A0, σ0⟩ := X
  intro A E H locs ls hR hE hok hos hS hl
  refine lv_astore_n h.1 h.2.1 d rfl hl.lv (by rw [h.2.2.1]; exact hn) rfl (fun ls' h9 => kk A E H locs ls' hR hE (hok.st trivial) hos.tail hS (k_has.st (v := k_r x) h9))
theorem r_istore {X : k_X} {own : String} {cc : ByteArray} {nL : Nat} (h : k_Ok X own cc nL) {σ : k_S} {k n pc : Nat} {L : List (Option k_AV)} {st : List k_AV} {z : Nat} {x : Int32} {L' : List (Option k_AV)} (d : decode cc pc = .ok (.istore z, 2)) (hn : z < nL) (hL : k_st L z (k_i x) = L') (kk : k_W X σ k n (pc + 2) L' st) : k_W X σ k n pc L (k_i x :: st) := by
  subst hL
  obtain ⟨p, l, e, R, s, m, args, below, meth, c, Q, G, A0, σ0⟩ := X
  intro A E H locs ls hR hE hok hos hS hl
  refine lv_istore h.1 h.2.1 d hl.lv (by rw [h.2.2.1]; exact hn) rfl (fun ls' h9 => kk A E H locs ls' hR hE (hok.st trivial) hos.tail hS (k_has.st (v := k_i x) h9))
theorem r_lstore {X : k_X} {own : String} {cc : ByteArray} {nL : Nat} (h : k_Ok X own cc nL) {σ : k_S} {k n pc : Nat} {L : List (Option k_AV)} {st : List k_AV} {z : Nat} {x : Int64} {L' : List (Option k_AV)} (d : decode cc pc = .ok (.lstore z, 2)) (hn : z + 1 < nL) (hL : k_st2 L z (k_l x) = L') (kk : k_W X σ k n (pc + 2) L' st) : k_W X σ k n pc L (k_l x :: st) := by
  subst hL
  obtain ⟨p, l, e, R, s, m, args, below, meth, c, Q, G, A0, σ0⟩ := X
  intro A E H locs ls hR hE hok hos hS hl
  refine lv_lstore h.1 h.2.1 d hl.lv (by rw [h.2.2.1]; exact hn) rfl (fun ls' h9 => kk A E H locs ls' hR hE (hok.st2 trivial) hos.tail hS (k_has.st2 (v := k_l x) h9))
theorem r_fstore {X : k_X} {own : String} {cc : ByteArray} {nL : Nat} (h : k_Ok X own cc nL) {σ : k_S} {k n pc : Nat} {L : List (Option k_AV)} {st : List k_AV} {z : Nat} {x : UInt32} {L' : List (Option k_AV)} (d : decode cc pc = .ok (.fstore z, 2)) (hn : z < nL) (hL : k_st L z (k_f x) = L') (kk : k_W X σ k n (pc + 2) L' st) : k_W X σ k n pc L (k_f x :: st) := by
  subst hL
  obtain ⟨p, l, e, R, s, m, args, below, meth, c, Q, G, A0, σ0⟩ := X
  intro A E H locs ls hR hE hok hos hS hl
  refine lv_fstore h.1 h.2.1 d hl.lv (by rw [h.2.2.1]; exact hn) rfl (fun ls' h9 => kk A E H locs ls' hR hE (hok.st trivial) hos.tail hS (k_has.st (v := k_f x) h9))
theorem r_dstore {X : k_X} {own : String} {cc : ByteArray} {nL : Nat} (h : k_Ok X own cc nL) {σ : k_S} {k n pc : Nat} {L : List (Option k_AV)} {st : List k_AV} {z : Nat} {x : UInt64} {L' : List (Option k_AV)} (d : decode cc pc = .ok (.dstore z, 2)) (hn : z + 1 < nL) (hL : k_st2 L z (k_d x) = L') (kk : k_W X σ k n (pc + 2) L' st) : k_W X σ k n pc L (k_d x :: st) := by
  subst hL
  obtain ⟨p, l, e, R, s, m, args, below, meth, c, Q, G, A0, σ0⟩ := X
  intro A E H locs ls hR hE hok hos hS hl
  refine lv_dstore h.1 h.2.1 d hl.lv (by rw [h.2.2.1]; exact hn) rfl (fun ls' h9 => kk A E H locs ls' hR hE (hok.st2 trivial) hos.tail hS (k_has.st2 (v := k_d x) h9))
theorem r_astore {X : k_X} {own : String} {cc : ByteArray} {nL : Nat} (h : k_Ok X own cc nL) {σ : k_S} {k n pc : Nat} {L : List (Option k_AV)} {st : List k_AV} {z : Nat} {q : Nat × Nat} {L' : List (Option k_AV)} (d : decode cc pc = .ok (.astore z, 2)) (hn : z < nL) (hL : k_st L z (.inr q) = L') (kk : k_W X σ k n (pc + 2) L' st) : k_W X σ k n pc L (.inr q :: st) := by
  subst hL
  obtain ⟨p, l, e, R, s, m, args, below, meth, c, Q, G, A0, σ0⟩ := X
  intro A E H locs ls hR hE hok hos hS hl
  refine lv_astore h.1 h.2.1 d hl.lv (by rw [h.2.2.1]; exact hn) rfl (fun ls' h9 => kk A E H locs ls' hR hE (hok.st hos.head) hos.tail hS (k_has.st (v := .inr q) h9))
theorem r_astoreR {X : k_X} {own : String} {cc : ByteArray} {nL : Nat} (h : k_Ok X own cc nL) {σ : k_S} {k n pc : Nat} {L : List (Option k_AV)} {st : List k_AV} {z : Nat} {x : Nat} {L' : List (Option k_AV)} (d : decode cc pc = .ok (.astore z, 2)) (hn : z < nL) (hL : k_st L z (k_r x) = L') (kk : k_W X σ k n (pc + 2) L' st) : k_W X σ k n pc L (k_r x :: st) := by
  subst hL
  obtain ⟨p, l, e, R, s, m, args, below, meth, c, Q, G, A0, σ0⟩ := X
  intro A E H locs ls hR hE hok hos hS hl
  refine lv_astore h.1 h.2.1 d hl.lv (by rw [h.2.2.1]; exact hn) rfl (fun ls' h9 => kk A E H locs ls' hR hE (hok.st trivial) hos.tail hS (k_has.st (v := k_r x) h9))
theorem r_iinc {X : k_X} {own : String} {cc : ByteArray} {nL : Nat} (h : k_Ok X own cc nL) {σ : k_S} {k n pc : Nat} {L : List (Option k_AV)} {st : List k_AV} {z : Nat} {w : Int} {x v : Int32} {L' : List (Option k_AV)} (d : decode cc pc = .ok (.iinc z w, 3)) (hx : L[z]? = some (some (k_i x))) (hv : x + Int32.ofInt w = v) (hn : z < nL) (hL : k_st L z (k_i v) = L') (kk : k_W X σ k n (pc + 3) L' st) : k_W X σ k n pc L st := by
  subst hL
  obtain ⟨p, l, e, R, s, m, args, below, meth, c, Q, G, A0, σ0⟩ := X
  intro A E H locs ls hR hE hok hos hS hl
  obtain ⟨j, hj⟩ := List.getElem?_of_mem (k_lv_mem (A := A) (q := (z, .int x)) |>.mpr ⟨k_i x, hx, rfl⟩)
  exact lv_iinc h.1 h.2.1 d hl.lv (k := j) hj hv (by rw [h.2.2.1]; exact hn) rfl (fun ls' h9 => kk A E H locs ls' hR hE (hok.st trivial) hos hS (k_has.st (v := k_i v) h9))
theorem r_iadd {X : k_X} {own : String} {cc : ByteArray} {nL : Nat} (h : k_Ok X own cc nL) {σ : k_S} {k n pc : Nat} {L : List (Option k_AV)} {st : List k_AV} {x y : Int32} (d : decode cc pc = .ok (.iadd, 1))  (kk : k_W X σ k n (pc + 1) L (k_i (x + y) :: st)) : k_W X σ k n pc L (k_i y :: k_i x :: st) := by
  obtain ⟨p, l, e, R, s, m, args, below, meth, c, Q, G, A0, σ0⟩ := X
  intro A E H locs ls hR hE hok hos hS hl
  exact lv_iadd h.1 h.2.1 d (kk A E H locs ls hR hE hok (hos.tail.tail.cons trivial) hS hl)
theorem r_isub {X : k_X} {own : String} {cc : ByteArray} {nL : Nat} (h : k_Ok X own cc nL) {σ : k_S} {k n pc : Nat} {L : List (Option k_AV)} {st : List k_AV} {x y : Int32} (d : decode cc pc = .ok (.isub, 1))  (kk : k_W X σ k n (pc + 1) L (k_i (x - y) :: st)) : k_W X σ k n pc L (k_i y :: k_i x :: st) := by
  obtain ⟨p, l, e, R, s, m, args, below, meth, c, Q, G, A0, σ0⟩ := X
  intro A E H locs ls hR hE hok hos hS hl
  exact lv_isub h.1 h.2.1 d (kk A E H locs ls hR hE hok (hos.tail.tail.cons trivial) hS hl)
theorem r_imul {X : k_X} {own : String} {cc : ByteArray} {nL : Nat} (h : k_Ok X own cc nL) {σ : k_S} {k n pc : Nat} {L : List (Option k_AV)} {st : List k_AV} {x y : Int32} (d : decode cc pc = .ok (.imul, 1))  (kk : k_W X σ k n (pc + 1) L (k_i (x * y) :: st)) : k_W X σ k n pc L (k_i y :: k_i x :: st) := by
  obtain ⟨p, l, e, R, s, m, args, below, meth, c, Q, G, A0, σ0⟩ := X
  intro A E H locs ls hR hE hok hos hS hl
  exact lv_imul h.1 h.2.1 d (kk A E H locs ls hR hE hok (hos.tail.tail.cons trivial) hS hl)
theorem r_iand {X : k_X} {own : String} {cc : ByteArray} {nL : Nat} (h : k_Ok X own cc nL) {σ : k_S} {k n pc : Nat} {L : List (Option k_AV)} {st : List k_AV} {x y : Int32} (d : decode cc pc = .ok (.iand, 1))  (kk : k_W X σ k n (pc + 1) L (k_i (x &&& y) :: st)) : k_W X σ k n pc L (k_i y :: k_i x :: st) := by
  obtain ⟨p, l, e, R, s, m, args, below, meth, c, Q, G, A0, σ0⟩ := X
  intro A E H locs ls hR hE hok hos hS hl
  exact lv_iand h.1 h.2.1 d (kk A E H locs ls hR hE hok (hos.tail.tail.cons trivial) hS hl)
theorem r_idiv {X : k_X} {own : String} {cc : ByteArray} {nL : Nat} (h : k_Ok X own cc nL) {σ : k_S} {k n pc : Nat} {L : List (Option k_AV)} {st : List k_AV} {x y : Int32} (d : decode cc pc = .ok (.idiv, 1)) (hy : ¬ y = 0) (kk : k_W X σ k n (pc + 1) L (k_i (x / y) :: st)) : k_W X σ k n pc L (k_i y :: k_i x :: st) := by
  obtain ⟨p, l, e, R, s, m, args, below, meth, c, Q, G, A0, σ0⟩ := X
  intro A E H locs ls hR hE hok hos hS hl
  exact lv_idiv h.1 h.2.1 d hy (kk A E H locs ls hR hE hok (hos.tail.tail.cons trivial) hS hl)
theorem r_ineg {X : k_X} {own : String} {cc : ByteArray} {nL : Nat} (h : k_Ok X own cc nL) {σ : k_S} {k n pc : Nat} {L : List (Option k_AV)} {st : List k_AV} {x : Int32} (d : decode cc pc = .ok (.ineg, 1))  (kk : k_W X σ k n (pc + 1) L (k_i (-x) :: st)) : k_W X σ k n pc L (k_i x :: st) := by
  obtain ⟨p, l, e, R, s, m, args, below, meth, c, Q, G, A0, σ0⟩ := X
  intro A E H locs ls hR hE hok hos hS hl
  exact lv_ineg h.1 h.2.1 d (kk A E H locs ls hR hE hok (hos.tail.cons trivial) hS hl)
theorem r_ishr {X : k_X} {own : String} {cc : ByteArray} {nL : Nat} (h : k_Ok X own cc nL) {σ : k_S} {k n pc : Nat} {L : List (Option k_AV)} {st : List k_AV} {x y v : Int32} (d : decode cc pc = .ok (.ishr, 1)) (hv : x >>> (y &&& 31) = v) (kk : k_W X σ k n (pc + 1) L (k_i v :: st)) : k_W X σ k n pc L (k_i y :: k_i x :: st) := by
  obtain ⟨p, l, e, R, s, m, args, below, meth, c, Q, G, A0, σ0⟩ := X
  intro A E H locs ls hR hE hok hos hS hl
  exact lv_ishr h.1 h.2.1 d (hv ▸ (kk A E H locs ls hR hE hok (hos.tail.tail.cons trivial) hS hl))
theorem r_ladd {X : k_X} {own : String} {cc : ByteArray} {nL : Nat} (h : k_Ok X own cc nL) {σ : k_S} {k n pc : Nat} {L : List (Option k_AV)} {st : List k_AV} {x y : Int64} (d : decode cc pc = .ok (.ladd, 1))  (kk : k_W X σ k n (pc + 1) L (k_l (x + y) :: st)) : k_W X σ k n pc L (k_l y :: k_l x :: st) := by
  obtain ⟨p, l, e, R, s, m, args, below, meth, c, Q, G, A0, σ0⟩ := X
  intro A E H locs ls hR hE hok hos hS hl
  exact lv_ladd h.1 h.2.1 d (kk A E H locs ls hR hE hok (hos.tail.tail.cons trivial) hS hl)
theorem r_i2l {X : k_X} {own : String} {cc : ByteArray} {nL : Nat} (h : k_Ok X own cc nL) {σ : k_S} {k n pc : Nat} {L : List (Option k_AV)} {st : List k_AV} {x : Int32} (d : decode cc pc = .ok (.i2l, 1))  (kk : k_W X σ k n (pc + 1) L (k_l x.toInt64 :: st)) : k_W X σ k n pc L (k_i x :: st) := by
  obtain ⟨p, l, e, R, s, m, args, below, meth, c, Q, G, A0, σ0⟩ := X
  intro A E H locs ls hR hE hok hos hS hl
  exact lv_i2l h.1 h.2.1 d rfl (kk A E H locs ls hR hE hok (hos.tail.cons trivial) hS hl)
theorem r_i2c {X : k_X} {own : String} {cc : ByteArray} {nL : Nat} (h : k_Ok X own cc nL) {σ : k_S} {k n pc : Nat} {L : List (Option k_AV)} {st : List k_AV} {x : Int32} (d : decode cc pc = .ok (.i2c, 1))  (kk : k_W X σ k n (pc + 1) L (k_i (x.toUInt32 % 65536).toInt32 :: st)) : k_W X σ k n pc L (k_i x :: st) := by
  obtain ⟨p, l, e, R, s, m, args, below, meth, c, Q, G, A0, σ0⟩ := X
  intro A E H locs ls hR hE hok hos hS hl
  exact lv_i2c h.1 h.2.1 d rfl (kk A E H locs ls hR hE hok (hos.tail.cons trivial) hS hl)
theorem r_i2d {X : k_X} {own : String} {cc : ByteArray} {nL : Nat} (h : k_Ok X own cc nL) {σ : k_S} {k n pc : Nat} {L : List (Option k_AV)} {st : List k_AV} {x : Int32} (d : decode cc pc = .ok (.i2d, 1))  (kk : k_W X σ k n (pc + 1) L (k_d (FP.i2d x) :: st)) : k_W X σ k n pc L (k_i x :: st) := by
  obtain ⟨p, l, e, R, s, m, args, below, meth, c, Q, G, A0, σ0⟩ := X
  intro A E H locs ls hR hE hok hos hS hl
  exact lv_i2d h.1 h.2.1 d (kk A E H locs ls hR hE hok (hos.tail.cons trivial) hS hl)
theorem r_i2f {X : k_X} {own : String} {cc : ByteArray} {nL : Nat} (h : k_Ok X own cc nL) {σ : k_S} {k n pc : Nat} {L : List (Option k_AV)} {st : List k_AV} {x : Int32} (d : decode cc pc = .ok (.i2f, 1))  (kk : k_W X σ k n (pc + 1) L (k_f (FP.i2f x) :: st)) : k_W X σ k n pc L (k_i x :: st) := by
  obtain ⟨p, l, e, R, s, m, args, below, meth, c, Q, G, A0, σ0⟩ := X
  intro A E H locs ls hR hE hok hos hS hl
  exact lv_i2f h.1 h.2.1 d (kk A E H locs ls hR hE hok (hos.tail.cons trivial) hS hl)
theorem r_ddiv {X : k_X} {own : String} {cc : ByteArray} {nL : Nat} (h : k_Ok X own cc nL) {σ : k_S} {k n pc : Nat} {L : List (Option k_AV)} {st : List k_AV} {x y : UInt64} (d : decode cc pc = .ok (.ddiv, 1)) (hne : vf_n64 (FP.ddiv x y)) (kk : k_W X σ k n (pc + 1) L (k_d (FP.ddiv x y) :: st)) : k_W X σ k n pc L (k_d y :: k_d x :: st) := by
  obtain ⟨p, l, e, R, s, m, args, below, meth, c, Q, G, A0, σ0⟩ := X
  intro A E H locs ls hR hE hok hos hS hl
  exact lv_ddiv h.1 h.2.1 d hne (kk A E H locs ls hR hE hok (hos.tail.tail.cons trivial) hS hl)
theorem r_fdiv {X : k_X} {own : String} {cc : ByteArray} {nL : Nat} (h : k_Ok X own cc nL) {σ : k_S} {k n pc : Nat} {L : List (Option k_AV)} {st : List k_AV} {x y : UInt32} (d : decode cc pc = .ok (.fdiv, 1)) (hne : vf_n32 (FP.fdiv x y)) (kk : k_W X σ k n (pc + 1) L (k_f (FP.fdiv x y) :: st)) : k_W X σ k n pc L (k_f y :: k_f x :: st) := by
  obtain ⟨p, l, e, R, s, m, args, below, meth, c, Q, G, A0, σ0⟩ := X
  intro A E H locs ls hR hE hok hos hS hl
  exact lv_fdiv h.1 h.2.1 d hne (kk A E H locs ls hR hE hok (hos.tail.tail.cons trivial) hS hl)
theorem r_f2d {X : k_X} {own : String} {cc : ByteArray} {nL : Nat} (h : k_Ok X own cc nL) {σ : k_S} {k n pc : Nat} {L : List (Option k_AV)} {st : List k_AV} {x : UInt32} (d : decode cc pc = .ok (.f2d, 1)) (hne : vf_n64 (FP.f2d x)) (kk : k_W X σ k n (pc + 1) L (k_d (FP.f2d x) :: st)) : k_W X σ k n pc L (k_f x :: st) := by
  obtain ⟨p, l, e, R, s, m, args, below, meth, c, Q, G, A0, σ0⟩ := X
  intro A E H locs ls hR hE hok hos hS hl
  exact lv_f2d h.1 h.2.1 d hne (kk A E H locs ls hR hE hok (hos.tail.cons trivial) hS hl)
theorem r_dup {X : k_X} {own : String} {cc : ByteArray} {nL : Nat} (h : k_Ok X own cc nL) {σ : k_S} {k n pc : Nat} {L : List (Option k_AV)} {st : List k_AV} {v : k_AV} (d : decode cc pc = .ok (.dup, 1)) (hv : k_w (some v) = false) (kk : k_W X σ k n (pc + 1) L (v :: v :: st)) : k_W X σ k n pc L (v :: st) := by
  obtain ⟨p, l, e, R, s, m, args, below, meth, c, Q, G, A0, σ0⟩ := X
  intro A E H locs ls hR hE hok hos hS hl
  exact lv_dup h.1 h.2.1 d (k_cat1 hv) (kk A E H locs ls hR hE hok (hos.cons hos.head) hS hl)
theorem r_pop {X : k_X} {own : String} {cc : ByteArray} {nL : Nat} (h : k_Ok X own cc nL) {σ : k_S} {k n pc : Nat} {L : List (Option k_AV)} {st : List k_AV} {v : k_AV} (d : decode cc pc = .ok (.pop, 1)) (hv : k_w (some v) = false) (kk : k_W X σ k n (pc + 1) L (st)) : k_W X σ k n pc L (v :: st) := by
  obtain ⟨p, l, e, R, s, m, args, below, meth, c, Q, G, A0, σ0⟩ := X
  intro A E H locs ls hR hE hok hos hS hl
  exact lv_pop h.1 h.2.1 d (k_cat1 hv) (kk A E H locs ls hR hE hok hos.tail hS hl)
theorem r_if_eq {X : k_X} {own : String} {cc : ByteArray} {nL : Nat} (h : k_Ok X own cc nL) {σ : k_S} {k n pc : Nat} {L : List (Option k_AV)} {st : List k_AV} {x : Int32} {off : Int} {tgt : Nat} (d : decode cc pc = .ok (.ifCond .eq off, 3)) (ht : (pc : Int) + off = (tgt : Int)) (kt : x = 0 → k_W X σ k n tgt L st) (kf : ¬ x = 0 → k_W X σ k n (pc + 3) L st) : k_W X σ k n pc L (k_i x :: st) := by
  obtain ⟨p, l, e, R, s, m, args, below, meth, c, Q, G, A0, σ0⟩ := X
  intro A E H locs ls hR hE hok hos hS hl
  exact lv_if_eq h.1 h.2.1 d ht (fun q => kt q A E H locs ls hR hE hok hos.tail hS hl) (fun q => kf q A E H locs ls hR hE hok hos.tail hS hl)
theorem r_if_ne {X : k_X} {own : String} {cc : ByteArray} {nL : Nat} (h : k_Ok X own cc nL) {σ : k_S} {k n pc : Nat} {L : List (Option k_AV)} {st : List k_AV} {x : Int32} {off : Int} {tgt : Nat} (d : decode cc pc = .ok (.ifCond .ne off, 3)) (ht : (pc : Int) + off = (tgt : Int)) (kt : ¬ x = 0 → k_W X σ k n tgt L st) (kf : x = 0 → k_W X σ k n (pc + 3) L st) : k_W X σ k n pc L (k_i x :: st) := by
  obtain ⟨p, l, e, R, s, m, args, below, meth, c, Q, G, A0, σ0⟩ := X
  intro A E H locs ls hR hE hok hos hS hl
  exact lv_if_ne h.1 h.2.1 d ht (fun q => kt q A E H locs ls hR hE hok hos.tail hS hl) (fun q => kf q A E H locs ls hR hE hok hos.tail hS hl)
theorem r_if_lt {X : k_X} {own : String} {cc : ByteArray} {nL : Nat} (h : k_Ok X own cc nL) {σ : k_S} {k n pc : Nat} {L : List (Option k_AV)} {st : List k_AV} {x : Int32} {off : Int} {tgt : Nat} (d : decode cc pc = .ok (.ifCond .lt off, 3)) (ht : (pc : Int) + off = (tgt : Int)) (kt : x < 0 → k_W X σ k n tgt L st) (kf : ¬ x < 0 → k_W X σ k n (pc + 3) L st) : k_W X σ k n pc L (k_i x :: st) := by
  obtain ⟨p, l, e, R, s, m, args, below, meth, c, Q, G, A0, σ0⟩ := X
  intro A E H locs ls hR hE hok hos hS hl
  exact lv_if_lt h.1 h.2.1 d ht (fun q => kt q A E H locs ls hR hE hok hos.tail hS hl) (fun q => kf q A E H locs ls hR hE hok hos.tail hS hl)
theorem r_if_ge {X : k_X} {own : String} {cc : ByteArray} {nL : Nat} (h : k_Ok X own cc nL) {σ : k_S} {k n pc : Nat} {L : List (Option k_AV)} {st : List k_AV} {x : Int32} {off : Int} {tgt : Nat} (d : decode cc pc = .ok (.ifCond .ge off, 3)) (ht : (pc : Int) + off = (tgt : Int)) (kt : 0 ≤ x → k_W X σ k n tgt L st) (kf : ¬ 0 ≤ x → k_W X σ k n (pc + 3) L st) : k_W X σ k n pc L (k_i x :: st) := by
  obtain ⟨p, l, e, R, s, m, args, below, meth, c, Q, G, A0, σ0⟩ := X
  intro A E H locs ls hR hE hok hos hS hl
  exact lv_if_ge h.1 h.2.1 d ht (fun q => kt q A E H locs ls hR hE hok hos.tail hS hl) (fun q => kf q A E H locs ls hR hE hok hos.tail hS hl)
theorem r_if_gt {X : k_X} {own : String} {cc : ByteArray} {nL : Nat} (h : k_Ok X own cc nL) {σ : k_S} {k n pc : Nat} {L : List (Option k_AV)} {st : List k_AV} {x : Int32} {off : Int} {tgt : Nat} (d : decode cc pc = .ok (.ifCond .gt off, 3)) (ht : (pc : Int) + off = (tgt : Int)) (kt : 0 < x → k_W X σ k n tgt L st) (kf : ¬ 0 < x → k_W X σ k n (pc + 3) L st) : k_W X σ k n pc L (k_i x :: st) := by
  obtain ⟨p, l, e, R, s, m, args, below, meth, c, Q, G, A0, σ0⟩ := X
  intro A E H locs ls hR hE hok hos hS hl
  exact lv_if_gt h.1 h.2.1 d ht (fun q => kt q A E H locs ls hR hE hok hos.tail hS hl) (fun q => kf q A E H locs ls hR hE hok hos.tail hS hl)
theorem r_if_le {X : k_X} {own : String} {cc : ByteArray} {nL : Nat} (h : k_Ok X own cc nL) {σ : k_S} {k n pc : Nat} {L : List (Option k_AV)} {st : List k_AV} {x : Int32} {off : Int} {tgt : Nat} (d : decode cc pc = .ok (.ifCond .le off, 3)) (ht : (pc : Int) + off = (tgt : Int)) (kt : x ≤ 0 → k_W X σ k n tgt L st) (kf : ¬ x ≤ 0 → k_W X σ k n (pc + 3) L st) : k_W X σ k n pc L (k_i x :: st) := by
  obtain ⟨p, l, e, R, s, m, args, below, meth, c, Q, G, A0, σ0⟩ := X
  intro A E H locs ls hR hE hok hos hS hl
  exact lv_if_le h.1 h.2.1 d ht (fun q => kt q A E H locs ls hR hE hok hos.tail hS hl) (fun q => kf q A E H locs ls hR hE hok hos.tail hS hl)
theorem r_icmp_eq {X : k_X} {own : String} {cc : ByteArray} {nL : Nat} (h : k_Ok X own cc nL) {σ : k_S} {k n pc : Nat} {L : List (Option k_AV)} {st : List k_AV} {x y : Int32} {off : Int} {tgt : Nat} (d : decode cc pc = .ok (.if_icmp .eq off, 3)) (ht : (pc : Int) + off = (tgt : Int)) (kt : x = y → k_W X σ k n tgt L st) (kf : ¬ x = y → k_W X σ k n (pc + 3) L st) : k_W X σ k n pc L (k_i y :: k_i x :: st) := by
  obtain ⟨p, l, e, R, s, m, args, below, meth, c, Q, G, A0, σ0⟩ := X
  intro A E H locs ls hR hE hok hos hS hl
  exact lv_icmp_eq h.1 h.2.1 d ht (fun q => kt q A E H locs ls hR hE hok hos.tail.tail hS hl) (fun q => kf q A E H locs ls hR hE hok hos.tail.tail hS hl)
theorem r_icmp_ne {X : k_X} {own : String} {cc : ByteArray} {nL : Nat} (h : k_Ok X own cc nL) {σ : k_S} {k n pc : Nat} {L : List (Option k_AV)} {st : List k_AV} {x y : Int32} {off : Int} {tgt : Nat} (d : decode cc pc = .ok (.if_icmp .ne off, 3)) (ht : (pc : Int) + off = (tgt : Int)) (kt : ¬ x = y → k_W X σ k n tgt L st) (kf : x = y → k_W X σ k n (pc + 3) L st) : k_W X σ k n pc L (k_i y :: k_i x :: st) := by
  obtain ⟨p, l, e, R, s, m, args, below, meth, c, Q, G, A0, σ0⟩ := X
  intro A E H locs ls hR hE hok hos hS hl
  exact lv_icmp_ne h.1 h.2.1 d ht (fun q => kt q A E H locs ls hR hE hok hos.tail.tail hS hl) (fun q => kf q A E H locs ls hR hE hok hos.tail.tail hS hl)
theorem r_icmp_lt {X : k_X} {own : String} {cc : ByteArray} {nL : Nat} (h : k_Ok X own cc nL) {σ : k_S} {k n pc : Nat} {L : List (Option k_AV)} {st : List k_AV} {x y : Int32} {off : Int} {tgt : Nat} (d : decode cc pc = .ok (.if_icmp .lt off, 3)) (ht : (pc : Int) + off = (tgt : Int)) (kt : x < y → k_W X σ k n tgt L st) (kf : ¬ x < y → k_W X σ k n (pc + 3) L st) : k_W X σ k n pc L (k_i y :: k_i x :: st) := by
  obtain ⟨p, l, e, R, s, m, args, below, meth, c, Q, G, A0, σ0⟩ := X
  intro A E H locs ls hR hE hok hos hS hl
  exact lv_icmp_lt h.1 h.2.1 d ht (fun q => kt q A E H locs ls hR hE hok hos.tail.tail hS hl) (fun q => kf q A E H locs ls hR hE hok hos.tail.tail hS hl)
theorem r_icmp_ge {X : k_X} {own : String} {cc : ByteArray} {nL : Nat} (h : k_Ok X own cc nL) {σ : k_S} {k n pc : Nat} {L : List (Option k_AV)} {st : List k_AV} {x y : Int32} {off : Int} {tgt : Nat} (d : decode cc pc = .ok (.if_icmp .ge off, 3)) (ht : (pc : Int) + off = (tgt : Int)) (kt : y ≤ x → k_W X σ k n tgt L st) (kf : ¬ y ≤ x → k_W X σ k n (pc + 3) L st) : k_W X σ k n pc L (k_i y :: k_i x :: st) := by
  obtain ⟨p, l, e, R, s, m, args, below, meth, c, Q, G, A0, σ0⟩ := X
  intro A E H locs ls hR hE hok hos hS hl
  exact lv_icmp_ge h.1 h.2.1 d ht (fun q => kt q A E H locs ls hR hE hok hos.tail.tail hS hl) (fun q => kf q A E H locs ls hR hE hok hos.tail.tail hS hl)
theorem r_icmp_gt {X : k_X} {own : String} {cc : ByteArray} {nL : Nat} (h : k_Ok X own cc nL) {σ : k_S} {k n pc : Nat} {L : List (Option k_AV)} {st : List k_AV} {x y : Int32} {off : Int} {tgt : Nat} (d : decode cc pc = .ok (.if_icmp .gt off, 3)) (ht : (pc : Int) + off = (tgt : Int)) (kt : y < x → k_W X σ k n tgt L st) (kf : ¬ y < x → k_W X σ k n (pc + 3) L st) : k_W X σ k n pc L (k_i y :: k_i x :: st) := by
  obtain ⟨p, l, e, R, s, m, args, below, meth, c, Q, G, A0, σ0⟩ := X
  intro A E H locs ls hR hE hok hos hS hl
  exact lv_icmp_gt h.1 h.2.1 d ht (fun q => kt q A E H locs ls hR hE hok hos.tail.tail hS hl) (fun q => kf q A E H locs ls hR hE hok hos.tail.tail hS hl)
theorem r_icmp_le {X : k_X} {own : String} {cc : ByteArray} {nL : Nat} (h : k_Ok X own cc nL) {σ : k_S} {k n pc : Nat} {L : List (Option k_AV)} {st : List k_AV} {x y : Int32} {off : Int} {tgt : Nat} (d : decode cc pc = .ok (.if_icmp .le off, 3)) (ht : (pc : Int) + off = (tgt : Int)) (kt : x ≤ y → k_W X σ k n tgt L st) (kf : ¬ x ≤ y → k_W X σ k n (pc + 3) L st) : k_W X σ k n pc L (k_i y :: k_i x :: st) := by
  obtain ⟨p, l, e, R, s, m, args, below, meth, c, Q, G, A0, σ0⟩ := X
  intro A E H locs ls hR hE hok hos hS hl
  exact lv_icmp_le h.1 h.2.1 d ht (fun q => kt q A E H locs ls hR hE hok hos.tail.tail hS hl) (fun q => kf q A E H locs ls hR hE hok hos.tail.tail hS hl)
theorem r_goto {X : k_X} {own : String} {cc : ByteArray} {nL : Nat} (h : k_Ok X own cc nL) {σ : k_S} {k n pc : Nat} {L : List (Option k_AV)} {st : List k_AV} {off : Int} {tgt : Nat} (d : decode cc pc = .ok (.goto off, 3)) (ht : (pc : Int) + off = (tgt : Int)) (kk : k_W X σ k n tgt L st) : k_W X σ k n pc L st := by
  obtain ⟨p, l, e, R, s, m, args, below, meth, c, Q, G, A0, σ0⟩ := X
  intro A E H locs ls hR hE hok hos hS hl
  exact lv_goto h.1 h.2.1 d ht (kk A E H locs ls hR hE hok hos hS hl)
theorem r_ifnull {X : k_X} {own : String} {cc : ByteArray} {nL : Nat} (h : k_Ok X own cc nL) {σ : k_S} {k n pc : Nat} {L : List (Option k_AV)} {st : List k_AV} {q : Nat × Nat} {off : Int} (d : decode cc pc = .ok (.ifnull off, 3)) (kk : k_W X σ k n (pc + 3) L st) : k_W X σ k n pc L (.inr q :: st) := by
  obtain ⟨p, l, e, R, s, m, args, below, meth, c, Q, G, A0, σ0⟩ := X
  intro A E H locs ls hR hE hok hos hS hl
  exact lv_ifnull h.1 h.2.1 d (kk A E H locs ls hR hE hok hos.tail hS hl)
theorem r_ifnullN {X : k_X} {own : String} {cc : ByteArray} {nL : Nat} (h : k_Ok X own cc nL) {σ : k_S} {k n pc : Nat} {L : List (Option k_AV)} {st : List k_AV} {off : Int} {tgt : Nat} (d : decode cc pc = .ok (.ifnull off, 3)) (ht : (pc : Int) + off = (tgt : Int)) (kk : k_W X σ k n tgt L st) : k_W X σ k n pc L (k_n :: st) := by
  obtain ⟨p, l, e, R, s, m, args, below, meth, c, Q, G, A0, σ0⟩ := X
  intro A E H locs ls hR hE hok hos hS hl
  exact lv_ifnullN h.1 h.2.1 d ht (kk A E H locs ls hR hE hok hos.tail hS hl)
theorem r_acmp_ne {X : k_X} {own : String} {cc : ByteArray} {nL : Nat} (h : k_Ok X own cc nL) {σ : k_S} {k n pc : Nat} {L : List (Option k_AV)} {st : List k_AV} {u i j : Nat} {off : Int} {tgt : Nat} (d : decode cc pc = .ok (.if_acmp .ne off, 3)) (ht : (pc : Int) + off = (tgt : Int)) (kt : ¬ i = j → k_W X σ k n tgt L st) (kf : i = j → k_W X σ k n (pc + 3) L st) : k_W X σ k n pc L (k_p u j :: k_p u i :: st) := by
  obtain ⟨p, l, e, R, s, m, args, below, meth, c, Q, G, A0, σ0⟩ := X
  intro A E H locs ls hR hE hok hos hS hl
  have h1 : j < k_N σ u := hos.head
  have h2 : i < k_N σ u := hos.tail.head
  refine lv_acmp_ne (rx := some (A u i)) (ry := some (A u j)) h.1 h.2.1 d ht (fun q => kt (fun z => q (by rw [z])) A E H locs ls hR hE hok hos.tail.tail hS hl) (fun q => kf ?_ A E H locs ls hR hE hok hos.tail.tail hS hl)
  exact (hR.2.1 u i u j h2 h1 (Option.some.inj q)).2
theorem r_acmp_eq {X : k_X} {own : String} {cc : ByteArray} {nL : Nat} (h : k_Ok X own cc nL) {σ : k_S} {k n pc : Nat} {L : List (Option k_AV)} {st : List k_AV} {u i j : Nat} {off : Int} {tgt : Nat} (d : decode cc pc = .ok (.if_acmp .eq off, 3)) (ht : (pc : Int) + off = (tgt : Int)) (kt : i = j → k_W X σ k n tgt L st) (kf : ¬ i = j → k_W X σ k n (pc + 3) L st) : k_W X σ k n pc L (k_p u j :: k_p u i :: st) := by
  obtain ⟨p, l, e, R, s, m, args, below, meth, c, Q, G, A0, σ0⟩ := X
  intro A E H locs ls hR hE hok hos hS hl
  have h1 : j < k_N σ u := hos.head
  have h2 : i < k_N σ u := hos.tail.head
  refine lv_acmp_eq (rx := some (A u i)) (ry := some (A u j)) h.1 h.2.1 d ht (fun q => kt ?_ A E H locs ls hR hE hok hos.tail.tail hS hl) (fun q => kf (fun z => q (by rw [z])) A E H locs ls hR hE hok hos.tail.tail hS hl)
  exact (hR.2.1 u i u j h2 h1 (Option.some.inj q)).2
theorem r_lookup {X : k_X} {own : String} {cc : ByteArray} {nL : Nat} (h : k_Ok X own cc nL) {σ : k_S} {k n pc : Nat} {L : List (Option k_AV)} {st : List k_AV} {dflt : Int} {ps : Array (Int × Int)} {len : Nat} {x : Int32} {off : Int} {tgt : Nat} (d : decode cc pc = .ok (.lookupswitch dflt ps, len)) (hp : (ps.toList.zip (ps.toList.drop 1)).all (fun (a, next) => a.1 < next.1) = true) (ho : Op.lookupswitch.offset ps.toList dflt x.toInt = off) (ht : (pc : Int) + off = (tgt : Int)) (kk : k_W X σ k n tgt L st) : k_W X σ k n pc L (k_i x :: st) := by
  obtain ⟨p, l, e, R, s, m, args, below, meth, c, Q, G, A0, σ0⟩ := X
  intro A E H locs ls hR hE hok hos hS hl
  exact lv_lookup h.1 h.2.1 d hp ho ht (kk A E H locs ls hR hE hok hos.tail hS hl)
theorem r_tableIn {X : k_X} {own : String} {cc : ByteArray} {nL : Nat} (h : k_Ok X own cc nL) {σ : k_S} {k n pc : Nat} {L : List (Option k_AV)} {st : List k_AV} {dflt lo hi : Int} {offs : Array Int} {len : Nat} {x : Int32} {off : Int} {tgt : Nat} (d : decode cc pc = .ok (.tableswitch dflt lo hi offs, len)) (h1 : ¬ x.toInt < lo) (h2 : ¬ hi < x.toInt) (ho : offs[(x.toInt - lo).toNat]? = some off) (ht : (pc : Int) + off = (tgt : Int)) (kk : k_W X σ k n tgt L st) : k_W X σ k n pc L (k_i x :: st) := by
  obtain ⟨p, l, e, R, s, m, args, below, meth, c, Q, G, A0, σ0⟩ := X
  intro A E H locs ls hR hE hok hos hS hl
  exact lv_tableIn h.1 h.2.1 d h1 h2 ho ht (kk A E H locs ls hR hE hok hos.tail hS hl)
theorem r_tableOut {X : k_X} {own : String} {cc : ByteArray} {nL : Nat} (h : k_Ok X own cc nL) {σ : k_S} {k n pc : Nat} {L : List (Option k_AV)} {st : List k_AV} {dflt lo hi : Int} {offs : Array Int} {len : Nat} {x : Int32} {tgt : Nat} (d : decode cc pc = .ok (.tableswitch dflt lo hi offs, len)) (h1 : x.toInt < lo ∨ hi < x.toInt) (ht : (pc : Int) + dflt = (tgt : Int)) (kk : k_W X σ k n tgt L st) : k_W X σ k n pc L (k_i x :: st) := by
  obtain ⟨p, l, e, R, s, m, args, below, meth, c, Q, G, A0, σ0⟩ := X
  intro A E H locs ls hR hE hok hos hS hl
  exact lv_tableOut h.1 h.2.1 d h1 ht (kk A E H locs ls hR hE hok hos.tail hS hl)
theorem r_widen {X : k_X} {σ : k_S} {k n k' n' pc : Nat} {L : List (Option k_AV)} {st : List k_AV} (h1 : k ≤ k') (h2 : n ≤ n') (kk : k_W X σ k' n' pc L st) : k_W X σ k n pc L st := by
  obtain ⟨p, l, e, R, s, m, args, below, meth, c, Q, G, A0, σ0⟩ := X
  intro A E H locs ls hR hE hok hos hS hl
  exact W.widen h1 h2 (kk A E H locs ls hR hE hok hos hS hl)
/-- the same locals, the same stack, written otherwise -/
theorem r_cast {X : k_X} {σ σ' : k_S} {k n pc pc' : Nat} {L L' : List (Option k_AV)} {st st' : List k_AV} (kk : k_W X σ' k n pc' L' st') (h0 : σ = σ') (hp : pc = pc') (h1 : L = L') (h2 : st = st') : k_W X σ k n pc L st := by
  subst h0; subst h1; subst h2; subst hp
  exact kk
/-- fewer locals are known -/
theorem r_forget {X : k_X} {σ : k_S} {k n pc : Nat} {L L' : List (Option k_AV)} {st : List k_AV} (hL : ∀ (i : Nat) (v : k_AV), L'[i]? = some (some v) → L[i]? = some (some v)) (kk : k_W X σ k n pc L' st) : k_W X σ k n pc L st := by
  obtain ⟨p, l, e, R, s, m, args, below, meth, c, Q, G, A0, σ0⟩ := X
  intro A E H locs ls hR hE hok hos hS hl
  exact kk A E H locs ls hR hE (fun v hv => by
    obtain ⟨i, hi⟩ := List.getElem?_of_mem hv
    exact hok v (List.mem_of_getElem? (hL i v hi))) hos hS ⟨hl.1, hl.2.1, fun i v hv => hl.2.2 i v (hL i v hv)⟩
/-- a reference of a place leads to a thing that is there; an int of a place has its width -/
theorem r_there {X : k_X} {σ : k_S} {k n pc : Nat} {L : List (Option k_AV)} {st : List k_AV} (kk : (∀ u i f j, i < k_N σ u → 3 ≤ k_kd u f → k_P σ u i f = some j → j < k_N σ (k_kd u f - 3)) → (∀ u i f, i < k_N σ u → k_fit (k_ty u f) (k_I σ u i f)) → (∀ u i, some (k_p u i) ∈ L ∨ k_p u i ∈ st → i < k_N σ u) → k_W X σ k n pc L st) : k_W X σ k n pc L st := by
  obtain ⟨p, l, e, R, s, m, args, below, meth, c, Q, G, A0, σ0⟩ := X
  intro A E H locs ls hR hE hok hos hS hl
  exact kk hR.2.2.2.1 hR.2.2.2.2.1 (fun u i q => q.elim (fun q => hok _ q) (fun q => hos _ q)) A E H locs ls hR hE hok hos hS hl
