theorem r_iaload {X : k_X} {own : String} {cc : ByteArray} {nL : Nat} (h : k_Ok X own cc nL) {σ : k_S} {k n pc : Nat} {L : List (Option k_AV)} {st : List k_AV} {l i t N y : Nat} {j : Int32} (d : decode cc pc = .ok (.iaload, 1)) (hs : k_sch l = .inr (0, N)) (hl : k_isL l = false) (hk : k_kd l y = 0) (hj : j = nI y) (hy : y < N) (hN : N < 2 ^ 31) (kk : k_W X σ k n (pc + 1) L (k_i (k_I σ l i y) :: st)) : k_W X σ k n pc L (k_i j :: k_p l i :: st) := by
  obtain ⟨p, la, e, R, s, m, args, below, meth, c, Q, G, A0, σ0⟩ := X
  intro A E H locs ls hR hE hok hos hS hlc
  obtain ⟨hx, hb, -, hown, hts, hKS, -, -⟩ := h
  have hi : i < k_N σ l := hos.tail.head
  obtain ⟨h1, h2⟩ := k_ix hj hy hN
  refine W.iald (v := .int (k_I σ l i y)) hx hb (hR.arr hs hl hi) (k_arrT hKS.1 (t := 0) rfl _ _) (fun q => by cases q) (by show ¬ (j < 0 ∨ (arrV _ _ _).slots.size ≤ _); rw [arrV_size]; exact h1) (by show (arrV _ _ _).slots[_]? = _; rw [h2, arrV_read _ _ hy]; unfold k_fv; rw [hk]) rfl rfl d (kk A E H locs ls hR hE hok (hos.tail.tail.cons trivial) hS hlc)
theorem r_caload {X : k_X} {own : String} {cc : ByteArray} {nL : Nat} (h : k_Ok X own cc nL) {σ : k_S} {k n pc : Nat} {L : List (Option k_AV)} {st : List k_AV} {l i t N y : Nat} {j : Int32} (d : decode cc pc = .ok (.caload, 1)) (hs : k_sch l = .inr (1, N)) (hl : k_isL l = false) (hk : k_kd l y = 0) (hj : j = nI y) (hy : y < N) (hN : N < 2 ^ 31) (kk : k_W X σ k n (pc + 1) L (k_i (k_I σ l i y) :: st)) : k_W X σ k n pc L (k_i j :: k_p l i :: st) := by
  obtain ⟨p, la, e, R, s, m, args, below, meth, c, Q, G, A0, σ0⟩ := X
  intro A E H locs ls hR hE hok hos hS hlc
  obtain ⟨hx, hb, -, hown, hts, hKS, -, -⟩ := h
  have hi : i < k_N σ l := hos.tail.head
  obtain ⟨h1, h2⟩ := k_ix hj hy hN
  refine W.cald (v := .int (k_I σ l i y)) hx hb (hR.arr hs hl hi) (k_arrT hKS.1 (t := 1) rfl _ _) (fun q => by cases q) (by show ¬ (j < 0 ∨ (arrV _ _ _).slots.size ≤ _); rw [arrV_size]; exact h1) (by show (arrV _ _ _).slots[_]? = _; rw [h2, arrV_read _ _ hy]; unfold k_fv; rw [hk]) rfl rfl d (kk A E H locs ls hR hE hok (hos.tail.tail.cons trivial) hS hlc)
theorem r_baload {X : k_X} {own : String} {cc : ByteArray} {nL : Nat} (h : k_Ok X own cc nL) {σ : k_S} {k n pc : Nat} {L : List (Option k_AV)} {st : List k_AV} {l i t N y : Nat} {j : Int32} (d : decode cc pc = .ok (.baload, 1)) (hs : k_sch l = .inr (2, N)) (hl : k_isL l = false) (hk : k_kd l y = 0) (hj : j = nI y) (hy : y < N) (hN : N < 2 ^ 31) (kk : k_W X σ k n (pc + 1) L (k_i (k_I σ l i y) :: st)) : k_W X σ k n pc L (k_i j :: k_p l i :: st) := by
  obtain ⟨p, la, e, R, s, m, args, below, meth, c, Q, G, A0, σ0⟩ := X
  intro A E H locs ls hR hE hok hos hS hlc
  obtain ⟨hx, hb, -, hown, hts, hKS, -, -⟩ := h
  have hi : i < k_N σ l := hos.tail.head
  obtain ⟨h1, h2⟩ := k_ix hj hy hN
  refine W.zald (v := .int (k_I σ l i y)) hx hb (hR.arr hs hl hi) (k_arrT hKS.1 (t := 2) rfl _ _) (fun q => by cases q) (by show ¬ (j < 0 ∨ (arrV _ _ _).slots.size ≤ _); rw [arrV_size]; exact h1) (by show (arrV _ _ _).slots[_]? = _; rw [h2, arrV_read _ _ hy]; unfold k_fv; rw [hk]) rfl rfl d (kk A E H locs ls hR hE hok (hos.tail.tail.cons trivial) hS hlc)
theorem r_laload {X : k_X} {own : String} {cc : ByteArray} {nL : Nat} (h : k_Ok X own cc nL) {σ : k_S} {k n pc : Nat} {L : List (Option k_AV)} {st : List k_AV} {l i t N y : Nat} {j : Int32} (d : decode cc pc = .ok (.laload, 1)) (hs : k_sch l = .inr (3, N)) (hl : k_isL l = false) (hk : k_kd l y = 1) (hj : j = nI y) (hy : y < N) (hN : N < 2 ^ 31) (kk : k_W X σ k n (pc + 1) L (k_l (k_J σ l i y) :: st)) : k_W X σ k n pc L (k_i j :: k_p l i :: st) := by
  obtain ⟨p, la, e, R, s, m, args, below, meth, c, Q, G, A0, σ0⟩ := X
  intro A E H locs ls hR hE hok hos hS hlc
  obtain ⟨hx, hb, -, hown, hts, hKS, -, -⟩ := h
  have hi : i < k_N σ l := hos.tail.head
  obtain ⟨h1, h2⟩ := k_ix hj hy hN
  refine W.lald (v := .long (k_J σ l i y)) hx hb (hR.arr hs hl hi) (k_arrT hKS.1 (t := 3) rfl _ _) (fun q => by cases q) (by show ¬ (j < 0 ∨ (arrV _ _ _).slots.size ≤ _); rw [arrV_size]; exact h1) (by show (arrV _ _ _).slots[_]? = _; rw [h2, arrV_read _ _ hy]; unfold k_fv; rw [hk]) rfl rfl d (kk A E H locs ls hR hE hok (hos.tail.tail.cons trivial) hS hlc)
theorem r_daload {X : k_X} {own : String} {cc : ByteArray} {nL : Nat} (h : k_Ok X own cc nL) {σ : k_S} {k n pc : Nat} {L : List (Option k_AV)} {st : List k_AV} {l i t N y : Nat} {j : Int32} (d : decode cc pc = .ok (.daload, 1)) (hs : k_sch l = .inr (4, N)) (hl : k_isL l = false) (hk : k_kd l y = 2) (hj : j = nI y) (hy : y < N) (hN : N < 2 ^ 31) (kk : k_W X σ k n (pc + 1) L (k_d (k_D σ l i y) :: st)) : k_W X σ k n pc L (k_i j :: k_p l i :: st) := by
  obtain ⟨p, la, e, R, s, m, args, below, meth, c, Q, G, A0, σ0⟩ := X
  intro A E H locs ls hR hE hok hos hS hlc
  obtain ⟨hx, hb, -, hown, hts, hKS, -, -⟩ := h
  have hi : i < k_N σ l := hos.tail.head
  obtain ⟨h1, h2⟩ := k_ix hj hy hN
  refine W.dald (v := .double (k_D σ l i y)) hx hb (hR.arr hs hl hi) (k_arrT hKS.1 (t := 4) rfl _ _) (fun q => by cases q) (by show ¬ (j < 0 ∨ (arrV _ _ _).slots.size ≤ _); rw [arrV_size]; exact h1) (by show (arrV _ _ _).slots[_]? = _; rw [h2, arrV_read _ _ hy]; unfold k_fv; rw [hk]) rfl rfl d (kk A E H locs ls hR hE hok (hos.tail.tail.cons trivial) hS hlc)
theorem r_aaload {X : k_X} {own : String} {cc : ByteArray} {nL : Nat} (h : k_Ok X own cc nL) {σ : k_S} {k n pc : Nat} {L : List (Option k_AV)} {st : List k_AV} {l i t N y : Nat} {j : Int32} {u z : Nat} (d : decode cc pc = .ok (.aaload, 1)) (hs : k_sch l = .inr (6, N)) (hl : k_isL l = false) (hk : k_kd l y = u + 3) (hP : k_P σ l i y = some z) (hj : j = nI y) (hy : y < N) (hN : N < 2 ^ 31) (kk : k_W X σ k n (pc + 1) L (k_p u z :: st)) : k_W X σ k n pc L (k_i j :: k_p l i :: st) := by
  obtain ⟨p, la, e, R, s, m, args, below, meth, c, Q, G, A0, σ0⟩ := X
  intro A E H locs ls hR hE hok hos hS hlc
  obtain ⟨hx, hb, -, hown, hts, hKS, -, -⟩ := h
  have hi : i < k_N σ l := hos.tail.head
  obtain ⟨h1, h2⟩ := k_ix hj hy hN
  refine W.aald (v := .ref (A u z)) (ty := .array .int) hx hb (hR.arr hs hl hi) (k_arrT hKS.1 (t := 6) rfl _ _) rfl (fun q => by cases q) (by show ¬ (j < 0 ∨ (arrV _ _ _).slots.size ≤ _); rw [arrV_size]; exact h1) (by show (arrV _ _ _).slots[_]? = _; rw [h2, arrV_read _ _ hy]; unfold k_fv; rw [hk, hP]; rfl) rfl rfl d (kk A E H locs ls hR hE hok (hos.tail.tail.cons ?_) hS hlc)
  have := hR.2.2.2.1 l i y z hi (by rw [hk]; omega) hP
  rw [hk] at this
  exact this
theorem r_iastore {X : k_X} {own : String} {cc : ByteArray} {nL : Nat} (h : k_Ok X own cc nL) {σ : k_S} {k n pc : Nat} {L : List (Option k_AV)} {st : List k_AV} {l i t N y : Nat} {j : Int32} {x : Int32} (d : decode cc pc = .ok (.iastore, 1)) (hs : k_sch l = .inr (0, N)) (hl : k_isL l = false) (hk : k_kd l y = 0) (hty : k_ty l y = .int) (hx9 : k_fit .int x) (hj : j = nI y) (hy : y < N) (hN : N < 2 ^ 31) (kk : k_W X (k_uI σ l i y x) k n (pc + 1) L st) : k_W X σ k n pc L (k_i x :: k_i j :: k_p l i :: st) := by
  obtain ⟨p, la, e, R, s, m, args, below, meth, c, Q, G, A0, σ0⟩ := X
  intro A E H locs ls hR hE hok hos hS hlc
  obtain ⟨hx, hb, -, hown, hts, hKS, -, -⟩ := h
  have hi : i < k_N σ l := hos.tail.tail.head
  obtain ⟨h1, h2⟩ := k_ix hj hy hN
  refine W.iast hx hb (hR.arr hs hl hi) (k_arrT hKS.1 (t := 0) rfl _ _) (fun q => by cases q) (by show ¬ (j < 0 ∨ (arrV _ _ _).slots.size ≤ _); rw [arrV_size]; exact h1) rfl rfl d fun H' e1 e2 e3 => ?_
  skip
  rw [h2, arrV_store] at e1
  have hE' : k_Ext A A σ (k_uI σ l i y x) := fun l' i' h' => ⟨h', rfl⟩
  refine kk A E H' _ ls ?_ (hE.trans hE') (hok.ext hE') (hos.tail.tail.tail.ext hE').1 (hS.put e2 e3 (hR.2.2.1 l i hi).1) hlc
  refine hR.put hKS.2.2.2.2.2.2.2.2.1 hl hi e3 e2 rfl rfl ?_ (fun l' i' ne z => ⟨k_up3_n (fun q => ne ⟨q.1, q.2.1⟩), rfl, rfl, rfl⟩) (fun z j' hz hP => hR.2.2.2.1 l i z j' hi hz hP) (fun z => by
    by_cases ez : z = y
    · subst ez
      rw [hty]
      show k_fit .int (k_up3 (k_I σ) l i z x l i z)
      rw [k_up3_s]
      exact hx9
    · show k_fit _ (k_up3 (k_I σ) l i y x l i z)
      rw [k_up3_n (fun q => ez q.2.2)]
      exact hR.2.2.2.2.1 l i z hi)
  unfold k_at
  rw [hs]
  show _ = some _
  rw [e1]
  congr 2
  funext z
  by_cases ez : z = y
  · subst ez
    unfold k_fv updV
    rw [if_pos rfl, hk]
    show Value.int x = Value.int (k_up3 (k_I σ) l i z x l i z)
    rw [k_up3_s]
  · unfold updV
    rw [if_neg ez]
    exact (k_fv_congr (σ := σ) (σ' := k_uI σ l i y x) ⟨k_up3_n (fun q => ez q.2.2), rfl, rfl, rfl⟩).symm
theorem r_castore {X : k_X} {own : String} {cc : ByteArray} {nL : Nat} (h : k_Ok X own cc nL) {σ : k_S} {k n pc : Nat} {L : List (Option k_AV)} {st : List k_AV} {l i t N y : Nat} {j : Int32} {x : Int32} (d : decode cc pc = .ok (.castore, 1)) (hs : k_sch l = .inr (1, N)) (hl : k_isL l = false) (hk : k_kd l y = 0) (hty : k_ty l y = .char) (hx9 : k_fit .char x) (hj : j = nI y) (hy : y < N) (hN : N < 2 ^ 31) (kk : k_W X (k_uI σ l i y x) k n (pc + 1) L st) : k_W X σ k n pc L (k_i x :: k_i j :: k_p l i :: st) := by
  obtain ⟨p, la, e, R, s, m, args, below, meth, c, Q, G, A0, σ0⟩ := X
  intro A E H locs ls hR hE hok hos hS hlc
  obtain ⟨hx, hb, -, hown, hts, hKS, -, -⟩ := h
  have hi : i < k_N σ l := hos.tail.tail.head
  obtain ⟨h1, h2⟩ := k_ix hj hy hN
  refine W.cast hx hb (hR.arr hs hl hi) (k_arrT hKS.1 (t := 1) rfl _ _) (fun q => by cases q) (by show ¬ (j < 0 ∨ (arrV _ _ _).slots.size ≤ _); rw [arrV_size]; exact h1) rfl rfl d fun H' e1 e2 e3 => ?_
  rw [hx9.1] at e1
  rw [h2, arrV_store] at e1
  have hE' : k_Ext A A σ (k_uI σ l i y x) := fun l' i' h' => ⟨h', rfl⟩
  refine kk A E H' _ ls ?_ (hE.trans hE') (hok.ext hE') (hos.tail.tail.tail.ext hE').1 (hS.put e2 e3 (hR.2.2.1 l i hi).1) hlc
  refine hR.put hKS.2.2.2.2.2.2.2.2.1 hl hi e3 e2 rfl rfl ?_ (fun l' i' ne z => ⟨k_up3_n (fun q => ne ⟨q.1, q.2.1⟩), rfl, rfl, rfl⟩) (fun z j' hz hP => hR.2.2.2.1 l i z j' hi hz hP) (fun z => by
    by_cases ez : z = y
    · subst ez
      rw [hty]
      show k_fit .char (k_up3 (k_I σ) l i z x l i z)
      rw [k_up3_s]
      exact hx9
    · show k_fit _ (k_up3 (k_I σ) l i y x l i z)
      rw [k_up3_n (fun q => ez q.2.2)]
      exact hR.2.2.2.2.1 l i z hi)
  unfold k_at
  rw [hs]
  show _ = some _
  rw [e1]
  congr 2
  funext z
  by_cases ez : z = y
  · subst ez
    unfold k_fv updV
    rw [if_pos rfl, hk]
    show Value.int x = Value.int (k_up3 (k_I σ) l i z x l i z)
    rw [k_up3_s]
  · unfold updV
    rw [if_neg ez]
    exact (k_fv_congr (σ := σ) (σ' := k_uI σ l i y x) ⟨k_up3_n (fun q => ez q.2.2), rfl, rfl, rfl⟩).symm
theorem r_bastore {X : k_X} {own : String} {cc : ByteArray} {nL : Nat} (h : k_Ok X own cc nL) {σ : k_S} {k n pc : Nat} {L : List (Option k_AV)} {st : List k_AV} {l i t N y : Nat} {j : Int32} {x : Int32} (d : decode cc pc = .ok (.bastore, 1)) (hs : k_sch l = .inr (2, N)) (hl : k_isL l = false) (hk : k_kd l y = 0) (hty : k_ty l y = .boolean) (hx9 : k_fit .boolean x) (hj : j = nI y) (hy : y < N) (hN : N < 2 ^ 31) (kk : k_W X (k_uI σ l i y x) k n (pc + 1) L st) : k_W X σ k n pc L (k_i x :: k_i j :: k_p l i :: st) := by
  obtain ⟨p, la, e, R, s, m, args, below, meth, c, Q, G, A0, σ0⟩ := X
  intro A E H locs ls hR hE hok hos hS hlc
  obtain ⟨hx, hb, -, hown, hts, hKS, -, -⟩ := h
  have hi : i < k_N σ l := hos.tail.tail.head
  obtain ⟨h1, h2⟩ := k_ix hj hy hN
  refine W.zast hx hb (hR.arr hs hl hi) (k_arrT hKS.1 (t := 2) rfl _ _) (fun q => by cases q) (by show ¬ (j < 0 ∨ (arrV _ _ _).slots.size ≤ _); rw [arrV_size]; exact h1) rfl rfl d fun H' e1 e2 e3 => ?_
  rw [hx9.1] at e1
  rw [h2, arrV_store] at e1
  have hE' : k_Ext A A σ (k_uI σ l i y x) := fun l' i' h' => ⟨h', rfl⟩
  refine kk A E H' _ ls ?_ (hE.trans hE') (hok.ext hE') (hos.tail.tail.tail.ext hE').1 (hS.put e2 e3 (hR.2.2.1 l i hi).1) hlc
  refine hR.put hKS.2.2.2.2.2.2.2.2.1 hl hi e3 e2 rfl rfl ?_ (fun l' i' ne z => ⟨k_up3_n (fun q => ne ⟨q.1, q.2.1⟩), rfl, rfl, rfl⟩) (fun z j' hz hP => hR.2.2.2.1 l i z j' hi hz hP) (fun z => by
    by_cases ez : z = y
    · subst ez
      rw [hty]
      show k_fit .boolean (k_up3 (k_I σ) l i z x l i z)
      rw [k_up3_s]
      exact hx9
    · show k_fit _ (k_up3 (k_I σ) l i y x l i z)
      rw [k_up3_n (fun q => ez q.2.2)]
      exact hR.2.2.2.2.1 l i z hi)
  unfold k_at
  rw [hs]
  show _ = some _
  rw [e1]
  congr 2
  funext z
  by_cases ez : z = y
  · subst ez
    unfold k_fv updV
    rw [if_pos rfl, hk]
    show Value.int x = Value.int (k_up3 (k_I σ) l i z x l i z)
    rw [k_up3_s]
  · unfold updV
    rw [if_neg ez]
    exact (k_fv_congr (σ := σ) (σ' := k_uI σ l i y x) ⟨k_up3_n (fun q => ez q.2.2), rfl, rfl, rfl⟩).symm
theorem r_lastore {X : k_X} {own : String} {cc : ByteArray} {nL : Nat} (h : k_Ok X own cc nL) {σ : k_S} {k n pc : Nat} {L : List (Option k_AV)} {st : List k_AV} {l i t N y : Nat} {j : Int32} {x : Int64} (d : decode cc pc = .ok (.lastore, 1)) (hs : k_sch l = .inr (3, N)) (hl : k_isL l = false) (hk : k_kd l y = 1)   (hj : j = nI y) (hy : y < N) (hN : N < 2 ^ 31) (kk : k_W X (k_uJ σ l i y x) k n (pc + 1) L st) : k_W X σ k n pc L (k_l x :: k_i j :: k_p l i :: st) := by
  obtain ⟨p, la, e, R, s, m, args, below, meth, c, Q, G, A0, σ0⟩ := X
  intro A E H locs ls hR hE hok hos hS hlc
  obtain ⟨hx, hb, -, hown, hts, hKS, -, -⟩ := h
  have hi : i < k_N σ l := hos.tail.tail.head
  obtain ⟨h1, h2⟩ := k_ix hj hy hN
  refine W.last hx hb (hR.arr hs hl hi) (k_arrT hKS.1 (t := 3) rfl _ _) (fun q => by cases q) (by show ¬ (j < 0 ∨ (arrV _ _ _).slots.size ≤ _); rw [arrV_size]; exact h1) rfl rfl d fun H' e1 e2 e3 => ?_
  skip
  rw [h2, arrV_store] at e1
  have hE' : k_Ext A A σ (k_uJ σ l i y x) := fun l' i' h' => ⟨h', rfl⟩
  refine kk A E H' _ ls ?_ (hE.trans hE') (hok.ext hE') (hos.tail.tail.tail.ext hE').1 (hS.put e2 e3 (hR.2.2.1 l i hi).1) hlc
  refine hR.put hKS.2.2.2.2.2.2.2.2.1 hl hi e3 e2 rfl rfl ?_ (fun l' i' ne z => ⟨rfl, k_up3_n (fun q => ne ⟨q.1, q.2.1⟩), rfl, rfl⟩) (fun z j' hz hP => hR.2.2.2.1 l i z j' hi hz hP) (fun z => hR.2.2.2.2.1 l i z hi)
  unfold k_at
  rw [hs]
  show _ = some _
  rw [e1]
  congr 2
  funext z
  by_cases ez : z = y
  · subst ez
    unfold k_fv updV
    rw [if_pos rfl, hk]
    show Value.long x = Value.long (k_up3 (k_J σ) l i z x l i z)
    rw [k_up3_s]
  · unfold updV
    rw [if_neg ez]
    exact (k_fv_congr (σ := σ) (σ' := k_uJ σ l i y x) ⟨rfl, k_up3_n (fun q => ez q.2.2), rfl, rfl⟩).symm
theorem r_dastore {X : k_X} {own : String} {cc : ByteArray} {nL : Nat} (h : k_Ok X own cc nL) {σ : k_S} {k n pc : Nat} {L : List (Option k_AV)} {st : List k_AV} {l i t N y : Nat} {j : Int32} {x : UInt64} (d : decode cc pc = .ok (.dastore, 1)) (hs : k_sch l = .inr (4, N)) (hl : k_isL l = false) (hk : k_kd l y = 2)   (hj : j = nI y) (hy : y < N) (hN : N < 2 ^ 31) (kk : k_W X (k_uD σ l i y x) k n (pc + 1) L st) : k_W X σ k n pc L (k_d x :: k_i j :: k_p l i :: st) := by
  obtain ⟨p, la, e, R, s, m, args, below, meth, c, Q, G, A0, σ0⟩ := X
  intro A E H locs ls hR hE hok hos hS hlc
  obtain ⟨hx, hb, -, hown, hts, hKS, -, -⟩ := h
  have hi : i < k_N σ l := hos.tail.tail.head
  obtain ⟨h1, h2⟩ := k_ix hj hy hN
  refine W.dast hx hb (hR.arr hs hl hi) (k_arrT hKS.1 (t := 4) rfl _ _) (fun q => by cases q) (by show ¬ (j < 0 ∨ (arrV _ _ _).slots.size ≤ _); rw [arrV_size]; exact h1) rfl rfl d fun H' e1 e2 e3 => ?_
  skip
  rw [h2, arrV_store] at e1
  have hE' : k_Ext A A σ (k_uD σ l i y x) := fun l' i' h' => ⟨h', rfl⟩
  refine kk A E H' _ ls ?_ (hE.trans hE') (hok.ext hE') (hos.tail.tail.tail.ext hE').1 (hS.put e2 e3 (hR.2.2.1 l i hi).1) hlc
  refine hR.put hKS.2.2.2.2.2.2.2.2.1 hl hi e3 e2 rfl rfl ?_ (fun l' i' ne z => ⟨rfl, rfl, k_up3_n (fun q => ne ⟨q.1, q.2.1⟩), rfl⟩) (fun z j' hz hP => hR.2.2.2.1 l i z j' hi hz hP) (fun z => hR.2.2.2.2.1 l i z hi)
  unfold k_at
  rw [hs]
  show _ = some _
  rw [e1]
  congr 2
  funext z
  by_cases ez : z = y
  · subst ez
    unfold k_fv updV
    rw [if_pos rfl, hk]
    show Value.double x = Value.double (k_up3 (k_D σ) l i z x l i z)
    rw [k_up3_s]
  · unfold updV
    rw [if_neg ez]
    exact (k_fv_congr (σ := σ) (σ' := k_uD σ l i y x) ⟨rfl, rfl, k_up3_n (fun q => ez q.2.2), rfl⟩).symm
theorem r_alen {X : k_X} {own : String} {cc : ByteArray} {nL : Nat} (h : k_Ok X own cc nL) {σ : k_S} {k n pc : Nat} {L : List (Option k_AV)} {st : List k_AV} {l i t N : Nat} {ty : FieldType} (d : decode cc pc = .ok (.arraylength, 1)) (hs : k_sch l = .inr (t, N)) (hl : k_isL l = false) (ht : ∀ G : k_G, (k_tys G.2.1)[t]? = some (G.2.1 t, ty)) (kk : k_W X σ k n (pc + 1) L (k_i (nI N) :: st)) : k_W X σ k n pc L (k_p l i :: st) := by
  obtain ⟨p, la, e, R, s, m, args, below, meth, c, Q, G, A0, σ0⟩ := X
  intro A E H locs ls hR hE hok hos hS hlc
  obtain ⟨hx, hb, -, hown, hts, hKS, -, -⟩ := h
  have hi : i < k_N σ l := hos.head
  exact W.alen (n := nI N) hx hb (hR.arr hs hl hi) (k_arrT hKS.1 (t := t) (ht G) _ _) (by rw [arrV_size] <;> rfl) rfl rfl d (kk A E H locs ls hR hE hok (hos.tail.cons trivial) hS hlc)
