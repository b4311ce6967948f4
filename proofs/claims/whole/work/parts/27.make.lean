/-! ===== makings and throws of the classes (written by wip/whole/emit_walk.py) ===== -/
theorem r_throwW {X : k_X} {own : String} {cc : ByteArray} {nL : Nat} (h : k_Ok X own cc nL) {ret : Option FieldType} {oc : k_Oc} {mc ms : Nat} (hEn : k_En X ret oc mc ms []) {la : Launch} {G : k_G} {σ0 : k_S} {rm : Room} {nm : String} (hMe : k_Me X la G σ0 rm nm) {k n pc : Nat} {L : List (Option k_AV)} {ik is ic j : Nat} {cls text : String} (hT : k_Th own ik is ic cls text j)
    (d0 : decode cc pc = .ok (.new ik, 3)) (d3 : decode cc (pc + 3) = .ok (.dup, 1)) (d4 : decode cc (pc + 4) = .ok (.ldc_w is, 3)) (d6 : decode cc (pc + 7) = .ok (.invokespecial ic, 3)) (d9 : decode cc (pc + 10) = .ok (.athrow, 1))
    (ho : oc = .inr cls) (hr : 6 ≤ rm.frames ∧ 82 ≤ rm.locals ∧ k + 1 ≤ rm.cells ∧ n + 6 ≤ rm.slots) (hk : k + 1 ≤ mc) (hn : n + 6 ≤ ms) : k_W X σ0 k n pc L [] := by
  obtain ⟨p, la', e, R, s, m, args, below, meth, c, Q, G', A0, σ0'⟩ := X
  obtain ⟨rfl, hret, htab⟩ := hEn
  obtain ⟨rfl, rfl, rfl, rfl, -⟩ := hMe
  intro A E H locs ls hR hE hok hos hS hlc
  obtain ⟨hx, hb, hml, hown, hts, hKS, hlocks, hfl⟩ := h
  obtain ⟨t1, t2, t3, t4, t5⟩ := hT
  obtain ⟨hKK, hBs, hU, hN, hstr, -, -, -, -, -, -, hcas, hdec⟩ := hKS
  have soft : ∀ w, (w ∈ k_Tb ∨ w ∈ k_cas.map (fun q => Cond.castable q.1 q.2) ∨ w ∈ k_dec.map Cond.declares) → w.before args s = true ∧ vx_ot w = true := by
    intro w hw
    rcases hw with hw | hw | hw
    · exact ⟨hts w hw, k_good hw⟩
    · obtain ⟨q, h1, rfl⟩ := List.mem_map.mp hw
      exact ⟨va_Nw.use rfl (hcas q h1), rfl⟩
    · obtain ⟨q, h1, rfl⟩ := List.mem_map.mp hw
      exact ⟨va_Nw.use rfl (hdec q h1), rfl⟩
  refine vx_throwSW (names := ["java/lang/RuntimeException", "java/lang/Exception"]) hx hb (by unfold Launch.stackTraces; rw [hfl]; exact k_fl) hown t1 (by decide +kernel) (hts _ t2) (hts _ t3) (hstr j _ t4) (fun w hw => (soft w (t5 w hw)).1) (fun w hw => by
    rcases List.mem_cons.mp hw with rfl | hw
    · exact k_good t2
    · rcases List.mem_cons.mp hw with rfl | hw
      · exact k_good t3
      · exact (soft w (t5 w hw)).2) hU hN hS hlc.1 d0 d3 d4 d6 d9 (fun x hx => by rw [htab] at hx; cases hx) (by show 2 + 3 < _; omega) (by show 0 + (13 * (2 + 1) + 43) ≤ _; omega) hr.2.2.1 hr.2.2.2 hlocks
    (fun t hal hz hq => ⟨ho, ⟨A, E, hE, hR.grow hz hq⟩, Nat.le_trans hS.1 hz, fun q h1 h2 => by rw [hq q (Nat.lt_of_lt_of_le h1 hS.1)]; exact hS.2.1 q h1 h2⟩) hS.2.2 hk hn

theorem kn_X7_125 : k_Nw RX7 125 3 7 1 := ⟨RX6, TX6, tyX6, rfl, rfl, rfl, kw_7, wd_532, wd_533, wd_23, tyX6_ok, by decide +kernel⟩
theorem kn_X7_143 : k_Nw RX7 143 6 5 3 := ⟨RX4, TX4, tyX4, rfl, rfl, rfl, kw_5, wd_149, wd_702, wd_28, tyX4_ok, by decide +kernel⟩
theorem kn_X7_153 : k_Nw RX7 153 4 1 2 := ⟨RX0, TX0, tyX0, rfl, rfl, rfl, kw_1, wd_223, wd_584, wd_24, tyX0_ok, by decide +kernel⟩
theorem kn_X7_168 : k_Nw RX7 168 5 3 13 := ⟨RX2, TX2, tyX2, rfl, rfl, rfl, kw_3, wd_204, wd_613, wd_25, tyX2_ok, by decide +kernel⟩
theorem kn_X7_254 : k_Nw RX7 254 7 2 4 := ⟨RX1, TX1, tyX1, rfl, rfl, rfl, kw_2, wd_166, wd_676, wd_27, tyX1_ok, by decide +kernel⟩
theorem kn_X7_31 : k_Nw RX7 31 8 6 3 := ⟨RX5, TX5, tyX5, rfl, rfl, rfl, kw_6, wd_65, wd_66, wd_5, tyX5_ok, by decide +kernel⟩
theorem kn_X7_60 : k_Nw RX7 60 2 4 6 := ⟨RX3, TX3, tyX3, rfl, rfl, rfl, kw_4, wd_183, wd_327, wd_12, tyX3_ok, by decide +kernel⟩
theorem kt_X7_163_165 : k_Th RX7 163 165 167 "java/lang/IllegalArgumentException" "reporter and accused are the same" 6 := ⟨by decide +kernel, wd_236, wd_10, rfl, by decide +kernel⟩
theorem kt_X7_163_291 : k_Th RX7 163 291 167 "java/lang/IllegalArgumentException" "no such kind of reports" 16 := ⟨by decide +kernel, wd_236, wd_10, rfl, by decide +kernel⟩
theorem kt_X7_163_309 : k_Th RX7 163 309 167 "java/lang/IllegalArgumentException" "a number is out of range" 0 := ⟨by decide +kernel, wd_236, wd_10, rfl, by decide +kernel⟩
theorem kt_X7_199_201 : k_Th RX7 199 201 203 "java/lang/UnsupportedOperationException" "the user is a party" 8 := ⟨by decide +kernel, wd_738, wd_29, rfl, by decide +kernel⟩
theorem kt_X7_199_204 : k_Th RX7 199 204 203 "java/lang/UnsupportedOperationException" "the user is sanctioned" 9 := ⟨by decide +kernel, wd_738, wd_29, rfl, by decide +kernel⟩
theorem kt_X7_199_221 : k_Th RX7 199 221 203 "java/lang/UnsupportedOperationException" "the votes are less than the quorum" 11 := ⟨by decide +kernel, wd_738, wd_29, rfl, by decide +kernel⟩
theorem kt_X7_199_246 : k_Th RX7 199 246 203 "java/lang/UnsupportedOperationException" "the report was under appeal before" 14 := ⟨by decide +kernel, wd_738, wd_29, rfl, by decide +kernel⟩
theorem kt_X7_293_295 : k_Th RX7 293 295 297 "java/lang/ArithmeticException" "no report stands as guilty" 17 := ⟨by decide +kernel, wd_923, wd_30, rfl, by decide +kernel⟩
theorem kt_X7_293_304 : k_Th RX7 293 304 297 "java/lang/ArithmeticException" "no new decision on appeal" 18 := ⟨by decide +kernel, wd_923, wd_30, rfl, by decide +kernel⟩
theorem kt_X7_313_315 : k_Th RX7 313 315 317 "java/lang/IndexOutOfBoundsException" "there is none with this number" 2 := ⟨by decide +kernel, wd_457, wd_17, rfl, by decide +kernel⟩
theorem kt_X7_86_240 : k_Th RX7 86 240 90 "java/lang/IllegalStateException" "the report is not decided" 13 := ⟨by decide +kernel, wd_311, wd_11, rfl, by decide +kernel⟩
theorem kt_X7_86_273 : k_Th RX7 86 273 90 "java/lang/IllegalStateException" "the days end before" 15 := ⟨by decide +kernel, wd_311, wd_11, rfl, by decide +kernel⟩
theorem kt_X7_86_311 : k_Th RX7 86 311 90 "java/lang/IllegalStateException" "there are as many as there can be" 1 := ⟨by decide +kernel, wd_311, wd_11, rfl, by decide +kernel⟩
theorem kt_X7_86_318 : k_Th RX7 86 318 90 "java/lang/IllegalStateException" "the report is decided" 7 := ⟨by decide +kernel, wd_311, wd_11, rfl, by decide +kernel⟩
theorem kt_X7_86_88 : k_Th RX7 86 88 90 "java/lang/IllegalStateException" "the day of the repeal was told before" 3 := ⟨by decide +kernel, wd_311, wd_11, rfl, by decide +kernel⟩
