/-! ===== THE PURE PART: figures, 2 ===== -/
theorem q_lD_s {n k s : Nat} (h : q_lD n k = true) (hs : s < k) : q_ckD n s = true := List.all_eq_true.mp h s (List.mem_range.mpr hs)
theorem q_nanD {n s : Nat} (h1 : 1 ≤ n) (h2 : n ≤ 20) (hs : s ≤ 100 * n) : q_ckD n s = true := by
  match n, h1, h2 with
  | 1, _, _ => exact q_lD_s q_lD1 (by omega)
  | 2, _, _ => exact q_lD_s q_lD2 (by omega)
  | 3, _, _ => exact q_lD_s q_lD3 (by omega)
  | 4, _, _ => exact q_lD_s q_lD4 (by omega)
  | 5, _, _ => exact q_lD_s q_lD5 (by omega)
  | 6, _, _ => exact q_lD_s q_lD6 (by omega)
  | 7, _, _ => exact q_lD_s q_lD7 (by omega)
  | 8, _, _ => exact q_lD_s q_lD8 (by omega)
  | 9, _, _ => exact q_lD_s q_lD9 (by omega)
  | 10, _, _ => exact q_lD_s q_lD10 (by omega)
  | 11, _, _ => exact q_lD_s q_lD11 (by omega)
  | 12, _, _ => exact q_lD_s q_lD12 (by omega)
  | 13, _, _ => exact q_lD_s q_lD13 (by omega)
  | 14, _, _ => exact q_lD_s q_lD14 (by omega)
  | 15, _, _ => exact q_lD_s q_lD15 (by omega)
  | 16, _, _ => exact q_lD_s q_lD16 (by omega)
  | 17, _, _ => exact q_lD_s q_lD17 (by omega)
  | 18, _, _ => exact q_lD_s q_lD18 (by omega)
  | 19, _, _ => exact q_lD_s q_lD19 (by omega)
  | 20, _, _ => exact q_lD_s q_lD20 (by omega)
  | n + 21, _, h2 => exact absurd h2 (by omega)
theorem q_nanF {n s : Nat} (h1 : 1 ≤ n) (h2 : n ≤ 20) (hs : s ≤ 20) : q_ckF n s = true := by
  have := List.all_eq_true.mp (List.all_eq_true.mp q_lF n (List.mem_range.mpr (by omega))) s (List.mem_range.mpr (by omega))
  rw [Bool.or_eq_true] at this
  rcases this with q | q
  · have : n = 0 := by simpa using q
    omega
  · exact q
def q_cn (a : k_S) (r : Nat) : Nat := if k_I a 10 0 r = 103 then 1 else 0
def q_ce (a : k_S) (r : Nat) : Nat := if k_I a 10 0 r = 103 then (k_I a 5 r 4).toNatClampNeg else 0
theorem q_sN_mul {f : Nat → Nat} {c : Nat} : ∀ {n : Nat}, q_sN (fun r => c * f r) n = c * q_sN f n
  | 0 => rfl
  | n + 1 => by
    show q_sN (fun r => c * f r) n + c * f n = c * (q_sN f n + f n)
    rw [q_sN_mul, Nat.mul_add]
theorem q_I.ev {T : Nat} {a m : k_S} (h : q_I T a m) {r : Nat} (hr : r < k_Z a 15) : ∃ e, e ≤ 100 ∧ k_I a 5 r 4 = nI e ∧ k_I m 32 0 r = nI e := by
  obtain ⟨e, h1, h2⟩ := (h.rp hr).2.2.2.2.2.1
  exact ⟨e, h1, by rw [(h.rp hr).2.2.2.2.1, h2], h2⟩
theorem q_I.cnE {T : Nat} {a m : k_S} (h : q_I T a m) : q_sI (fun r => if k_I a 10 0 r = 103 then 1 else 0) (k_Z a 15) = nI (q_sN (q_cn a) (k_Z a 15)) := by
  rw [← q_sI_N]
  refine q_fd_c (fun r hr => ?_)
  show (if k_I a 10 0 r = 103 then (1 : Int32) else 0) = nI (q_cn a r)
  unfold q_cn
  split <;> rfl
theorem q_I.ceE {T : Nat} {a m : k_S} (h : q_I T a m) : q_sI (fun r => if k_I a 10 0 r = 103 then k_I a 5 r 4 else 0) (k_Z a 15) = nI (q_sN (q_ce a) (k_Z a 15)) := by
  rw [← q_sI_N]
  refine q_fd_c (fun r hr => ?_)
  obtain ⟨e, h1, h2, -⟩ := h.ev hr
  show (if k_I a 10 0 r = 103 then k_I a 5 r 4 else 0) = nI (q_ce a r)
  unfold q_ce
  rw [h2, q_c (by omega)]
  split <;> rfl
theorem q_I.ceb {T : Nat} {a m : k_S} (h : q_I T a m) : q_sN (q_ce a) (k_Z a 15) ≤ 100 * q_sN (q_cn a) (k_Z a 15) ∧ q_sN (q_cn a) (k_Z a 15) ≤ 20 := by
  have hz := h.H.z15
  constructor
  · rw [← q_sN_mul]
    refine q_sN_le2 (fun r hr => ?_)
    obtain ⟨e, h1, h2, -⟩ := h.ev hr
    show q_ce a r ≤ 100 * q_cn a r
    unfold q_ce q_cn
    rw [h2, q_c (by omega)]
    split <;> omega
  · have := q_sN_le (f := q_cn a) (b := 1) (n := k_Z a 15) (fun i _ => by unfold q_cn; split <;> omega)
    omega
/-- the class's double and the model's are alike -/
def q_OkD (L : Option (Int32 × k_S)) (M : k_S → Option (UInt64 × k_S)) : Prop :=
  ∃ (k : Int32) (σ1 : k_S) (b : UInt64) (σ2 : k_S) (T : Nat), L = some (k, σ1) ∧ M σ1 = some (b, σ2) ∧ k_I σ2 1 0 0 = k ∧ (k = 0 → k_D σ2 19 0 0 = b ∧ q_okD b) ∧ q_I T σ2 σ2
def q_OkF (L : Option (Int32 × k_S)) (M : k_S → Option (UInt32 × k_S)) : Prop :=
  ∃ (k : Int32) (σ1 : k_S) (b : UInt32) (σ2 : k_S) (T : Nat), L = some (k, σ1) ∧ M σ1 = some (b, σ2) ∧ k_I σ2 1 0 0 = k ∧ (k = 0 → k_D σ2 19 0 0 = FP.f2d b ∧ q_okF b ∧ q_okD (FP.f2d b)) ∧ q_I T σ2 σ2
theorem q_DD {σ : k_S} {l i k l' i' k' : Nat} {v : UInt64} : k_D (k_uD σ l i k v) l' i' k' = if l' = l ∧ i' = i ∧ k' = k then v else k_D σ l' i' k' := id rfl
theorem q_DI {σ : k_S} {l i k l' i' k' : Nat} {v : Int32} : k_D (k_uI σ l i k v) l' i' k' = k_D σ l' i' k' := id rfl
theorem g_meanEvidence {T : Nat} {σ : k_S} (hI : q_I T σ σ) : q_OkD (f_L_meanEvidence σ 0 0) (fun τ => f_X8_meanEvidence τ 0) := by
  have hz := hI.H.z15
  have hb := hI.ceb
  have mod : ∀ τ, q_I T σ τ → f_X8_meanEvidence_l1 200 0 (k_uI τ 1 0 0 0) 0 0 0 = some (nI (q_sN (q_cn σ) (k_Z σ 15)), nI (q_sN (q_ce σ) (k_Z σ 15)), nI (k_Z σ 15)) := fun τ hm => by
    have h' := hm.th (v := 0)
    rw [q_m_evid h'.M, ← h'.cnE, ← h'.ceE]
    refine congrArg some (Prod.ext (q_fd_c (fun r hr => (h'.cg hr).symm)) (Prod.ext (q_fd_c (fun r hr => ?_)) rfl))
    show (if k_I (k_uI τ 1 0 0 0) 38 0 r = 100 then (if k_I (k_uI τ 1 0 0 0) 39 0 r = 103 then k_I (k_uI τ 1 0 0 0) 32 0 r else 0) else 0) = if k_I σ 10 0 r = 103 then k_I σ 5 r 4 else 0
    rw [(h'.so hr).1, (h'.rp hr).2.2.2.2.1]
    unfold q_so
    by_cases e : k_I (k_uI τ 1 0 0 0) 38 0 r = 100
    · rw [if_pos e, if_pos e]
    · rw [if_neg e, if_neg e]
      rfl
  by_cases e : q_sN (q_cn σ) (k_Z σ 15) = 0
  · refine ⟨1, σ, FP.i2d 0, k_uI σ 1 0 0 1, T, ?_, ?_, ?_, fun q => absurd q (by decide), (hI.th).sh (q_sh.rf.uI (by omega))⟩
    · unfold f_L_meanEvidence f_X7_meanEvidence
      rw [q_guilty hI.H hI.ch, hI.cnE, e, Option.bind_some, if_pos nI_0]
      simp [k_bc]
    · show f_X8_meanEvidence σ 0 = _
      unfold f_X8_meanEvidence
      rw [mod σ hI, e, Option.bind_some]
      dsimp only
      rw [if_pos nI_0, q_fails]
      rfl
    · rw [q_II, if_pos ⟨rfl, rfl, rfl⟩]
  · have hok := q_nanD (n := q_sN (q_cn σ) (k_Z σ 15)) (s := q_sN (q_ce σ) (k_Z σ 15)) (by omega) hb.2 hb.1
    have hok2 := of_decide_eq_true hok
    refine ⟨0, k_uD σ 19 0 0 (FP.ddiv (FP.i2d (nI (q_sN (q_ce σ) (k_Z σ 15)))) (FP.i2d (nI (q_sN (q_cn σ) (k_Z σ 15))))), FP.ddiv (FP.i2d (nI (q_sN (q_ce σ) (k_Z σ 15)))) (FP.i2d (nI (q_sN (q_cn σ) (k_Z σ 15)))), k_uI (k_uD σ 19 0 0 (FP.ddiv (FP.i2d (nI (q_sN (q_ce σ) (k_Z σ 15)))) (FP.i2d (nI (q_sN (q_cn σ) (k_Z σ 15)))))) 1 0 0 0, T, ?_, ?_, ?_, fun _ => ⟨?_, hok2⟩, ?_⟩
    · unfold f_L_meanEvidence f_X7_meanEvidence
      rw [q_guilty hI.H hI.ch, hI.cnE, Option.bind_some, if_neg (nI_ne0 (by omega) (by omega)), q_evid hI.H hI.ch, hI.ceE, Option.bind_some, if_pos hok2]
      rfl
    · show f_X8_meanEvidence (k_uD σ 19 0 0 _) 0 = _
      unfold f_X8_meanEvidence
      rw [mod _ (hI.sm q_sm.rf.uD), Option.bind_some]
      dsimp only
      rw [if_neg (nI_ne0 (by omega) (by omega)), if_pos hok2]
    · rw [q_II, if_pos ⟨rfl, rfl, rfl⟩]
    · rw [q_DI, q_DD, if_pos ⟨rfl, rfl, rfl⟩]
    · exact (hI.sm q_sm.rf.uD.thr).sh (q_sh.rf.uD.uI (by omega))
theorem q_I.nw {T : Nat} {a m : k_S} (h : q_I T a m) {r : Nat} (hr : r < k_Z a 15) : q_hn a r = if k_I m 38 0 r = 100 then (if k_I m 40 0 r = 45 then 0 else 1) else 0 := by
  have e := (h.st hr).1
  have n45 : ∀ x, q_oc x → x ≠ 45 := fun x q e => by
    rw [e] at q
    rcases q with q | q | q | q <;> exact absurd q (by decide)
  unfold q_hn
  rw [e]
  rcases h.rs hr with q | q | q | q
  · rw [q.2.2.2.2.1, if_pos rfl, q.1, if_neg (by decide)]
  · rw [q.2.2.2.2.2.2.1, if_pos rfl, q.1, if_pos rfl, if_pos q.2.2.2.2.2.1]
  · rw [q.2.2.2.1, if_neg q_10, q.1, if_neg (by decide), if_neg (by decide)]
  · rw [q.2.2.2.2.2.2.1, if_neg q_10, q.1, if_pos rfl, if_pos rfl, if_neg (n45 _ q.2.2.2.2.2.1)]
def q_cw (m : k_S) (r : Nat) : Nat := if k_I m 38 0 r = 100 then (if k_I m 40 0 r = 45 then 0 else 1) else 0
def q_cv (m : k_S) (r : Nat) : Nat := if q_mrv m r = 0 then 0 else 1
theorem q_I.appE {T : Nat} {a m : k_S} (h : q_I T a m) : k_I m 1 0 30 = nI (q_sN (q_cw m) (k_Z a 15)) := by
  rw [h.Ct.1, ← q_sI_N]
  refine q_fd_c (fun r _ => ?_)
  show (if k_I m 38 0 r = 100 then (if k_I m 40 0 r = 45 then (0 : Int32) else 1) else 0) = nI (q_cw m r)
  unfold q_cw
  split
  · split <;> rfl
  · rfl
theorem q_I.revE {T : Nat} {a m : k_S} (h : q_I T a m) : k_I m 1 0 31 = nI (q_sN (q_cv m) (k_Z a 15)) := by
  rw [h.Ct.2, ← q_sI_N]
  refine q_fd_c (fun r _ => ?_)
  show q_mrv m r = nI (q_cv m r)
  unfold q_cv
  rcases q_mrv01 m r with e | e <;> rw [e] <;> rfl
theorem g_reversedShare {T : Nat} {σ : k_S} (hI : q_I T σ σ) : q_OkF (f_L_reversedShare σ 0 0) (fun τ => f_X8_reversedShare τ 0) := by
  have hz := hI.H.z15
  have b1 := q_sN_le (f := q_cw σ) (b := 1) (n := k_Z σ 15) (fun i _ => by unfold q_cw; split; (split <;> omega); omega)
  have b2 := q_sN_le (f := q_cv σ) (b := 1) (n := k_Z σ 15) (fun i _ => by unfold q_cv; split <;> omega)
  have hn : q_sI (fun r => q_01 (q_hn σ r)) (k_Z σ 15) = nI (q_sN (q_cw σ) (k_Z σ 15)) := by
    rw [← hI.appE, hI.Ct.1]
    refine q_fd_c (fun r hr => ?_)
    show q_01 (q_hn σ r) = _
    rw [hI.nw hr]
    unfold q_01
    split
    · split <;> rfl
    · rfl
  have hv : q_sI (fun r => q_01 (k_I σ 5 r 12)) (k_Z σ 15) = nI (q_sN (q_cv σ) (k_Z σ 15)) := by
    rw [← hI.revE, hI.Ct.2]
    refine q_fd_c (fun r hr => ?_)
    show q_01 (k_I σ 5 r 12) = q_mrv σ r
    rw [hI.rv hr]
    rcases q_mrv01 σ r with e | e <;> rw [e] <;> rfl
  by_cases e : q_sN (q_cw σ) (k_Z σ 15) = 0
  · refine ⟨1, σ, FP.i2f 0, k_uI σ 1 0 0 1, T, ?_, ?_, ?_, fun q => absurd q (by decide), (hI.th).sh (q_sh.rf.uI (by omega))⟩
    · unfold f_L_reversedShare f_X7_reversedShare
      rw [q_news hI.H, hn, e, Option.bind_some]
      dsimp only
      rw [if_pos nI_0]
      simp [k_bc]
    · show f_X8_reversedShare σ 0 = _
      unfold f_X8_reversedShare
      rw [hI.appE, e, if_pos nI_0, q_fails]
      rfl
    · rw [q_II, if_pos ⟨rfl, rfl, rfl⟩]
  · have hok := q_nanF (n := q_sN (q_cw σ) (k_Z σ 15)) (s := q_sN (q_cv σ) (k_Z σ 15)) (by omega) (by omega) (by omega)
    unfold q_ckF at hok
    rw [Bool.and_eq_true] at hok
    have ok1 := of_decide_eq_true hok.1
    have ok2 := of_decide_eq_true hok.2
    refine ⟨0, k_uD σ 19 0 0 (FP.f2d (FP.fdiv (FP.i2f (nI (q_sN (q_cv σ) (k_Z σ 15)))) (FP.i2f (nI (q_sN (q_cw σ) (k_Z σ 15)))))), FP.fdiv (FP.i2f (nI (q_sN (q_cv σ) (k_Z σ 15)))) (FP.i2f (nI (q_sN (q_cw σ) (k_Z σ 15)))), k_uI (k_uD σ 19 0 0 (FP.f2d (FP.fdiv (FP.i2f (nI (q_sN (q_cv σ) (k_Z σ 15)))) (FP.i2f (nI (q_sN (q_cw σ) (k_Z σ 15))))))) 1 0 0 0, T, ?_, ?_, ?_, fun _ => ⟨?_, ok1, ok2⟩, ?_⟩
    · unfold f_L_reversedShare f_X7_reversedShare
      rw [q_news hI.H, hn, Option.bind_some]
      dsimp only
      rw [if_neg (nI_ne0 (by omega) (by omega)), q_reversed hI.H, hv, Option.bind_some, if_pos ok1]
      show (if _ then _ else _) = _
      rw [if_pos ok2]
    · show f_X8_reversedShare (k_uD σ 19 0 0 _) 0 = _
      unfold f_X8_reversedShare
      rw [q_ID, hI.appE, if_neg (nI_ne0 (by omega) (by omega)), q_ID, hI.revE, if_pos ok1]
    · rw [q_II, if_pos ⟨rfl, rfl, rfl⟩]
    · rw [q_DI, q_DD, if_pos ⟨rfl, rfl, rfl⟩]
    · exact (hI.sm q_sm.rf.uD.thr).sh (q_sh.rf.uD.uI (by omega))
