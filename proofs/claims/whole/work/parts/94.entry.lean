/-! ===== THE LAW'S ENTRY: what the tables and the given say of the start ===== -/
theorem w_empty {args : Array Value} {s : State} {st : Term} {ty : FieldType} (h1 : (Cond.arrayOf st ty).before args s = true) (h2 : (Cond.eq (.length st) (.int 0)).before args s = true) : ∃ (a : Nat) (cell : Cell), st.eval args s none [] s = some (.ref a) ∧ s.heap[a]? = some cell ∧ s.isArrayOf cell ty ∧ cell.slots.size = 0 := by
  have hv : (Term.length st).eval args s none [] s = some (.int 0) := by
    cases hv : (Term.length st).eval args s none [] s with
    | none => simp [Cond.before, Cond.holds, Cond.value, hv] at h2
    | some w =>
      have hz : (Term.int 0).eval args s none [] s = some (.int 0) := rfl
      simp only [Cond.before, Cond.holds, Cond.value, hv, hz] at h2
      cases w <;> simp_all
  cases e : st.eval args s none [] s with
  | none => simp [Term.eval, e] at hv
  | some v =>
    cases v with
    | ref a =>
      cases ea : s.arrayAt? a with
      | none => simp [Term.eval, e, ea] at hv
      | some cell =>
        simp [Term.eval, e, ea] at hv
        obtain ⟨hcell, -⟩ := State.arrayAt?_spec ea
        refine ⟨a, cell, rfl, hcell, (Cond.arrayOf_spec (a := a) (cell := cell) h1 e hcell).1, ?_⟩
        exact (nI_eq (a := cell.slots.size) (b := 0) hv.1 (by decide)).mp hv.2
    | _ => simp [Term.eval, e] at hv
theorem w_cls {s : State} {b : Nat} (hts : ∀ w ∈ lw_tbl, w.before #[Value.ref b] s = true) : ∃ D : va_G, ∀ (c : Nat) (q : vw_C), k_cl[c]? = some q → u_Kn s q.1 q.2.1 q.2.2 (D.1 c) (D.2 c) := by
  have ht : ∀ w ∈ k_Tb, w.before #[Value.ref b] s = true := fun w h => hts w (List.mem_filter.mp h).1
  have key : ∀ c : Nat, ∃ (cC : ClassId) (iS : Nat → Nat), ∀ q, k_cl[c]? = some q → u_Kn s q.1 q.2.1 q.2.2 cC iS := by
    intro c
    match c with
    | 0 => obtain ⟨a, i, h⟩ := u_known ht kw_0 (ht _ wd_40); exact ⟨a, i, fun q e => by cases e; exact h⟩
    | 1 => obtain ⟨a, i, h⟩ := u_known ht kw_1 (ht _ wd_584); exact ⟨a, i, fun q e => by cases e; exact h⟩
    | 2 => obtain ⟨a, i, h⟩ := u_known ht kw_2 (ht _ wd_676); exact ⟨a, i, fun q e => by cases e; exact h⟩
    | 3 => obtain ⟨a, i, h⟩ := u_known ht kw_3 (ht _ wd_613); exact ⟨a, i, fun q e => by cases e; exact h⟩
    | 4 => obtain ⟨a, i, h⟩ := u_known ht kw_4 (ht _ wd_327); exact ⟨a, i, fun q e => by cases e; exact h⟩
    | 5 => obtain ⟨a, i, h⟩ := u_known ht kw_5 (ht _ wd_702); exact ⟨a, i, fun q e => by cases e; exact h⟩
    | 6 => obtain ⟨a, i, h⟩ := u_known ht kw_6 (ht _ wd_66); exact ⟨a, i, fun q e => by cases e; exact h⟩
    | 7 => obtain ⟨a, i, h⟩ := u_known ht kw_7 (ht _ wd_533); exact ⟨a, i, fun q e => by cases e; exact h⟩
    | 8 => obtain ⟨a, i, h⟩ := u_known ht kw_8 (ht _ wd_32); exact ⟨a, i, fun q e => by cases e; exact h⟩
    | 9 => obtain ⟨a, i, h⟩ := u_known ht kw_9 (ht _ wd_939); exact ⟨a, i, fun q e => by cases e; exact h⟩
    | c + 10 => exact ⟨0, fun _ => 0, fun q e => by simp at e⟩
  have k2 := fun c => Classical.choose_spec (key c)
  have k3 := fun c => Classical.choose_spec (k2 c)
  exact ⟨(fun c => Classical.choose (key c), fun c => Classical.choose (k2 c)), fun c q h => k3 c q h⟩
theorem w_arr {s : State} {b : Nat} (hts : ∀ w ∈ lw_tbl, w.before #[Value.ref b] s = true) : ∃ cA : Nat → ClassId, ∀ (k : Nat) (q : ClassId × FieldType), (k_tys cA)[k]? = some q → ArrOfT s q.1 q.2 ∧ va_RA s q.1 q.2 := by
  have ht : ∀ w ∈ k_Tb, w.before #[Value.ref b] s = true := fun w h => hts w (List.mem_filter.mp h).1
  have h0 : ∃ c, ArrOfT s c .int ∧ va_RA s c .int := by
    obtain ⟨c, k, comp, h1, h2, h3⟩ := Cond.arrayClass_spec (ht _ wd_87)
    exact ⟨c, fun n z => ⟨fun k h => (by cases h), k, h2, comp, h3⟩, h1⟩
  have h1 : ∃ c, ArrOfT s c .char ∧ va_RA s c .char := by
    obtain ⟨c, k, comp, h1, h2, h3⟩ := Cond.arrayClass_spec (ht _ wd_86)
    exact ⟨c, fun n z => ⟨fun k h => (by cases h), k, h2, comp, h3⟩, h1⟩
  have h2 : ∃ c, ArrOfT s c .boolean ∧ va_RA s c .boolean := by
    obtain ⟨c, k, comp, h1, h2, h3⟩ := Cond.arrayClass_spec (ht _ wd_1046)
    exact ⟨c, fun n z => ⟨fun k h => (by cases h), k, h2, comp, h3⟩, h1⟩
  have h3 : ∃ c, ArrOfT s c .long ∧ va_RA s c .long := by
    obtain ⟨c, k, comp, h1, h2, h3⟩ := Cond.arrayClass_spec (ht _ wd_1263)
    exact ⟨c, fun n z => ⟨fun k h => (by cases h), k, h2, comp, h3⟩, h1⟩
  have h4 : ∃ c, ArrOfT s c .double ∧ va_RA s c .double := by
    obtain ⟨c, k, comp, h1, h2, h3⟩ := Cond.arrayClass_spec (ht _ wd_1264)
    exact ⟨c, fun n z => ⟨fun k h => (by cases h), k, h2, comp, h3⟩, h1⟩
  have h5 : ∃ c, ArrOfT s c (.object "java/lang/Object") ∧ va_RA s c (.object "java/lang/Object") := by
    obtain ⟨comp, c, k, f1, f2, f3, f4, f5⟩ := Cond.arrayOver_spec (hts (.arrayOver (.object "java/lang/Object")) (by decide +kernel))
    exact ⟨c, fun n z => ⟨fun k h => (by cases h), k, f3, comp, f4⟩, k, comp, f3, f4, f1, f5⟩
  have h6 : ∃ c, ArrOfT s c (.array .int) ∧ va_RA s c (.array .int) := by
    obtain ⟨comp, c, k, f1, f2, f3, f4, f5⟩ := arrayOver_specB (hts (.arrayOver (.array .int)) (by decide +kernel))
    exact ⟨c, fun n z => ⟨fun k h => (by cases h), k, f3, comp, f4⟩, f5⟩
  obtain ⟨c0, h0⟩ := h0
  obtain ⟨c1, h1⟩ := h1
  obtain ⟨c2, h2⟩ := h2
  obtain ⟨c3, h3⟩ := h3
  obtain ⟨c4, h4⟩ := h4
  obtain ⟨c5, h5⟩ := h5
  obtain ⟨c6, h6⟩ := h6
  refine ⟨fun k => [c0, c1, c2, c3, c4, c5, c6].getD k 0, fun k q e => ?_⟩
  match k, e with
  | 0, e => cases e; exact h0
  | 1, e => cases e; exact h1
  | 2, e => cases e; exact h2
  | 3, e => cases e; exact h3
  | 4, e => cases e; exact h4
  | 5, e => cases e; exact h5
  | 6, e => cases e; exact h6
  | k + 7, e => simp at e
theorem w_txt {s : State} {b : Nat} {cH : ClassId} (hts : ∀ w ∈ lw_tbl, w.before #[Value.ref b] s = true) (hH : s.vm.findClass "PrecedentHall" = some cH) : ∃ f : Nat → Nat, ∀ j q, k_txt[j]? = some q → vk_R q.1 q.2.1 q.2.2 (f j) s := by
  have hall : ∀ q ∈ k_txt, q.1 = "PrecedentHall" ∧ Cond.stringRef q.1 q.2.1 q.2.2 ∈ lw_tbl := by decide +kernel
  have key : ∀ j : Nat, ∃ a : Nat, ∀ q, k_txt[j]? = some q → vk_R q.1 q.2.1 q.2.2 a s := by
    intro j
    cases e : k_txt[j]? with
    | none => exact ⟨0, fun q h => by cases h⟩
    | some q =>
      obtain ⟨e1, e2⟩ := hall q (List.mem_of_getElem? e)
      have h2 := hts _ e2
      rw [e1] at h2
      obtain ⟨-, -, -, a, -, -, -, -, -, hev⟩ := Cond.stringRef_spec hH h2
      exact ⟨a, fun q' h => by cases h; rw [e1]; exact vk_R.of h2 hev⟩
  exact ⟨fun j => Classical.choose (key j), fun j q h => Classical.choose_spec (key j) q h⟩
theorem w_nc {s : State} {b : Nat} (hg : (Cond.and given_1 narrow_1).before #[Value.ref b] s = true) : ∀ a ∈ k_exs, ∀ c ∈ k_exs, a ≠ c → va_Nc a c s := by
  have hs := flat_of_before _ hg
  have key : ∀ a ∈ k_exs, ∀ c ∈ k_exs, a ≠ c → Cond.not (.castable a c) ∈ flatC (Cond.and given_1 narrow_1) := by decide +kernel
  exact fun a ha c hc ne => va_Nc.of (hs _ (key a ha c hc ne))
theorem w_emp {s : State} {b : Nat} (hts : ∀ w ∈ lw_tbl, w.before #[Value.ref b] s = true) (hg : (Cond.and given_1 narrow_1).before #[Value.ref b] s = true) : ∃ (e0 : Nat) (cell : Cell), va_Z "java/util/ArrayList" "DEFAULTCAPACITY_EMPTY_ELEMENTDATA" "[Ljava/lang/Object;" (.ref e0) (fun q => s.heap.size ≤ q) s s.heap ∧ s.heap[e0]? = some cell ∧ s.isArrayOf cell (.object "java/lang/Object") ∧ cell.slots.size = 0 := by
  have hs := flat_of_before _ hg
  have g1 : (Cond.arrayOf (.static "java/util/ArrayList" "DEFAULTCAPACITY_EMPTY_ELEMENTDATA" "[Ljava/lang/Object;") (.object "java/lang/Object")).before #[Value.ref b] s = true := hs _ (by decide +kernel)
  have g2 : (Cond.eq (.length (.static "java/util/ArrayList" "DEFAULTCAPACITY_EMPTY_ELEMENTDATA" "[Ljava/lang/Object;")) (.int 0)).before #[Value.ref b] s = true := hs _ (by decide +kernel)
  obtain ⟨a, cell, h1, h2, h3, h4⟩ := w_empty g1 g2
  exact ⟨a, cell, va_Zof (hts (.laysStatic "java/util/ArrayList" "DEFAULTCAPACITY_EMPTY_ELEMENTDATA" "[Ljava/lang/Object;") (by decide +kernel)) (hts (.initialized "java/util/ArrayList") (by decide +kernel)) h1 (fun _ h => Nat.not_le.mpr h), h2, h3, h4⟩
theorem w_z1 {s : State} {b : Nat} (hts : ∀ w ∈ lw_tbl, w.before #[Value.ref b] s = true) (hg : (Cond.and given_1 narrow_1).before #[Value.ref b] s = true) : vx_Zq Bundle.tN "UNASSIGNED_STACK" Bundle.steD (fun q => s.heap.size ≤ q) s s.heap ∧ vx_Zq Bundle.tN "SUPPRESSED_SENTINEL" Bundle.listD (fun q => s.heap.size ≤ q) s s.heap := by
  have hs := flat_of_before _ hg
  exact ⟨vx_Zqof (hts (.laysStatic Bundle.tN "UNASSIGNED_STACK" Bundle.steD) (by decide +kernel)) (hts (.initialized Bundle.tN) (by decide +kernel)) (hs (.isRef (.static Bundle.tN "UNASSIGNED_STACK" Bundle.steD)) (by decide +kernel)) (fun _ h => Nat.not_le.mpr h),
    vx_Zqof (hts (.laysStatic Bundle.tN "SUPPRESSED_SENTINEL" Bundle.listD) (by decide +kernel)) (hts (.initialized Bundle.tN) (by decide +kernel)) (hs (.isRef (.static Bundle.tN "SUPPRESSED_SENTINEL" Bundle.listD)) (by decide +kernel)) (fun _ h => Nat.not_le.mpr h)⟩
theorem w_mi {s : State} {b : Nat} (hts : ∀ w ∈ lw_tbl, w.before #[Value.ref b] s = true) (hg : (Cond.and given_1 narrow_1).before #[Value.ref b] s = true) : ∃ mi : Nat, va_Mi "[Ljava/lang/Object;" mi s := by
  have hs := flat_of_before _ hg
  first | exact va_Mi.of (hs (.isRef (.mirror "[Ljava/lang/Object;")) (by decide +kernel)) | exact va_Mi.of (hts (.isRef (.mirror "[Ljava/lang/Object;")) (by decide +kernel))
theorem w_nw {s : State} {b : Nat} (hts : ∀ w ∈ lw_tbl, w.before #[Value.ref b] s = true) : (∀ q ∈ k_cas, va_Nw (.castable q.1 q.2) s) ∧ (∀ x ∈ k_dec, va_Nw (.declares x) s) ∧ va_AO "java/lang/Object" s ∧ k_AI s := by
  have k1 : ∀ q ∈ k_cas, Cond.castable q.1 q.2 ∈ lw_tbl := by decide +kernel
  have k2 : ∀ x ∈ k_dec, Cond.declares x ∈ lw_tbl := by decide +kernel
  refine ⟨fun q h => va_tabs rfl rfl (hts _ (k1 q h)), fun x h => va_tabs rfl rfl (hts _ (k2 x h)), va_AO.of (hts (.arrayOver (.object "java/lang/Object")) (by decide +kernel)), ?_⟩
  have h := hts (.arrayOver (.array .int)) (by decide +kernel)
  unfold k_AI Cond.before Cond.holds
  unfold Cond.before Cond.holds at h
  exact h
