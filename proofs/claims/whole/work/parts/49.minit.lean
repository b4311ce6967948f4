def f_X8_init (σ : k_S) (i0 : Nat) : Option (Unit × k_S) :=
  (if k_N σ 20 = 0 then (if k_N σ 21 = 0 then (if k_N σ 22 = 0 then (if k_N σ 23 = 0 then (if k_N σ 24 = 0 then (if k_N σ 25 = 0 then (if k_N σ 26 = 0 then (if k_N σ 27 = 0 then (if k_N σ 28 = 0 then (if k_N σ 29 = 0 then (if k_N σ 30 = 0 then (if k_N σ 31 = 0 then (if k_N σ 32 = 0 then (if k_N σ 33 = 0 then (if k_N σ 34 = 0 then (if k_N σ 35 = 0 then (if k_N σ 36 = 0 then (if k_N σ 37 = 0 then (if k_N σ 38 = 0 then (if k_N σ 39 = 0 then (if k_N σ 40 = 0 then (if k_N σ 41 = 0 then (if k_N σ 42 = 0 then some (((), (k_uP (k_mna (k_uP (k_new (k_uP (k_new (k_uP (k_new (k_uP (k_new (k_uP (k_new (k_uP (k_new (k_uP (k_new (k_uP (k_new (k_uP (k_new (k_uP (k_new (k_uP (k_new (k_uP (k_new (k_uI (k_uP (k_new (k_uP (k_new (k_uP (k_new (k_uP (k_new (k_uP (k_new (k_uP (k_new (k_uP (k_new (k_uP (k_new (k_uP (k_new σ 20) 1 (i0) (1) (some (0))) 21) 1 (i0) (2) (some (0))) 22) 1 (i0) (3) (some (0))) 23) 1 (i0) (4) (some (0))) 24) 1 (i0) (5) (some (0))) 25) 1 (i0) (6) (some (0))) 26) 1 (i0) (7) (some (0))) 27) 1 (i0) (8) (some (0))) 28) 1 (i0) (9) (some (0))) 1 (i0) (13) (5)) 29) 1 (i0) (15) (some (0))) 30) 1 (i0) (16) (some (0))) 31) 1 (i0) (17) (some (0))) 32) 1 (i0) (18) (some (0))) 33) 1 (i0) (19) (some (0))) 34) 1 (i0) (20) (some (0))) 35) 1 (i0) (21) (some (0))) 36) 1 (i0) (22) (some (0))) 37) 1 (i0) (23) (some (0))) 38) 1 (i0) (24) (some (0))) 39) 1 (i0) (25) (some (0))) 40) 1 (i0) (26) (some (0)))) 1 (i0) (27) (some (0))))) else none) else none) else none) else none) else none) else none) else none) else none) else none) else none) else none) else none) else none) else none) else none) else none) else none) else none) else none) else none) else none) else none) else none)
theorem j_X8_init (la : Launch) (hla : la.flags = flags0) (G : k_G) (σ : k_S) (i0 : Nat) (x : (Unit × k_S)) (hoc : f_X8_init σ i0 = some x) : k_CtA la G yX8_init (k_ws yX8_init cX8_init 1 (Option.none : Option ClassFile.FieldType)) { frames := 1, cells := 42, slots := 508, locals := 12 } [k_p 1 (i0)] σ (.inl (k_mU x.1, x.2)) 42 508 := by
  refine k_bodyA hla (by decide +kernel) (k_wl rfl) (Nat.le_of_ble_eq_true rfl) (fun X h hEn hMe hAI => ?_)
  show k_W X σ 0 0 0 [some (k_p 1 (i0))] []
  unfold f_X8_init at hoc
  refine r_aload_n h dX8_init_0 rfl ?_
  refine r_objInit h hMe wd_943 wd_37 wd_38 dX8_init_1 (by decide) ?_
  refine r_aload_n h dX8_init_4 rfl ?_
  refine r_bipush (v := 12) h dX8_init_5 (by decide) ?_
  obtain ⟨c1, hoc⟩ := k_gd hoc
  refine r_newarr h hMe 20 dX8_init_7 wd_87 rfl rfl (fun _ => rfl) (fun _ => rfl) (fun _ _ q => q) (by decide) (by decide) (by decide) (by decide) ?_
  refine r_eqP (Eq.trans rfl c1) ?_
  refine r_putR h kp_X8_9 (fun _ => k_Me.nm hMe) dX8_init_9 rfl rfl (by decide) rfl rfl ?_
  refine r_aload_n h dX8_init_12 rfl ?_
  refine r_bipush (v := 12) h dX8_init_13 (by decide) ?_
  obtain ⟨c2, hoc⟩ := k_gd hoc
  refine r_newarr h hMe 21 dX8_init_15 wd_87 rfl rfl (fun _ => rfl) (fun _ => rfl) (fun _ _ q => q) (by decide) (by decide) (by decide) (by decide) ?_
  refine r_eqP (Eq.trans (Eq.trans k_NuP (k_Nn (by decide))) c2) ?_
  refine r_putR h kp_X8_13 (fun _ => k_Me.nm hMe) dX8_init_17 rfl rfl (by decide) rfl rfl ?_
  refine r_aload_n h dX8_init_20 rfl ?_
  refine r_bipush (v := 12) h dX8_init_21 (by decide) ?_
  obtain ⟨c3, hoc⟩ := k_gd hoc
  refine r_newarr h hMe 22 dX8_init_23 wd_87 rfl rfl (fun _ => rfl) (fun _ => rfl) (fun _ _ q => q) (by decide) (by decide) (by decide) (by decide) ?_
  refine r_eqP (Eq.trans (Eq.trans k_NuP (Eq.trans (k_Nn (by decide)) (Eq.trans k_NuP (k_Nn (by decide))))) c3) ?_
  refine r_putR h kp_X8_16 (fun _ => k_Me.nm hMe) dX8_init_25 rfl rfl (by decide) rfl rfl ?_
  refine r_aload_n h dX8_init_28 rfl ?_
  refine r_bipush (v := 12) h dX8_init_29 (by decide) ?_
  obtain ⟨c4, hoc⟩ := k_gd hoc
  refine r_newarr h hMe 23 dX8_init_31 wd_87 rfl rfl (fun _ => rfl) (fun _ => rfl) (fun _ _ q => q) (by decide) (by decide) (by decide) (by decide) ?_
  refine r_eqP (Eq.trans (Eq.trans k_NuP (Eq.trans (k_Nn (by decide)) (Eq.trans k_NuP (Eq.trans (k_Nn (by decide)) (Eq.trans k_NuP (k_Nn (by decide))))))) c4) ?_
  refine r_putR h kp_X8_19 (fun _ => k_Me.nm hMe) dX8_init_33 rfl rfl (by decide) rfl rfl ?_
  refine r_aload_n h dX8_init_36 rfl ?_
  refine r_bipush (v := 12) h dX8_init_37 (by decide) ?_
  obtain ⟨c5, hoc⟩ := k_gd hoc
  refine r_newarr h hMe 24 dX8_init_39 wd_87 rfl rfl (fun _ => rfl) (fun _ => rfl) (fun _ _ q => q) (by decide) (by decide) (by decide) (by decide) ?_
  refine r_eqP (Eq.trans (Eq.trans k_NuP (Eq.trans (k_Nn (by decide)) (Eq.trans k_NuP (Eq.trans (k_Nn (by decide)) (Eq.trans k_NuP (Eq.trans (k_Nn (by decide)) (Eq.trans k_NuP (k_Nn (by decide))))))))) c5) ?_
  refine r_putR h kp_X8_22 (fun _ => k_Me.nm hMe) dX8_init_41 rfl rfl (by decide) rfl rfl ?_
  refine r_aload_n h dX8_init_44 rfl ?_
  refine r_bipush (v := 8) h dX8_init_45 (by decide) ?_
  obtain ⟨c6, hoc⟩ := k_gd hoc
  refine r_newarr h hMe 25 dX8_init_47 wd_87 rfl rfl (fun _ => rfl) (fun _ => rfl) (fun _ _ q => q) (by decide) (by decide) (by decide) (by decide) ?_
  refine r_eqP (Eq.trans (Eq.trans k_NuP (Eq.trans (k_Nn (by decide)) (Eq.trans k_NuP (Eq.trans (k_Nn (by decide)) (Eq.trans k_NuP (Eq.trans (k_Nn (by decide)) (Eq.trans k_NuP (Eq.trans (k_Nn (by decide)) (Eq.trans k_NuP (k_Nn (by decide))))))))))) c6) ?_
  refine r_putR h kp_X8_25 (fun _ => k_Me.nm hMe) dX8_init_49 rfl rfl (by decide) rfl rfl ?_
  refine r_aload_n h dX8_init_52 rfl ?_
  refine r_iconst (v := 4) h dX8_init_53 (by decide) ?_
  obtain ⟨c7, hoc⟩ := k_gd hoc
  refine r_newarr h hMe 26 dX8_init_54 wd_87 rfl rfl (fun _ => rfl) (fun _ => rfl) (fun _ _ q => q) (by decide) (by decide) (by decide) (by decide) ?_
  refine r_eqP (Eq.trans (Eq.trans k_NuP (Eq.trans (k_Nn (by decide)) (Eq.trans k_NuP (Eq.trans (k_Nn (by decide)) (Eq.trans k_NuP (Eq.trans (k_Nn (by decide)) (Eq.trans k_NuP (Eq.trans (k_Nn (by decide)) (Eq.trans k_NuP (Eq.trans (k_Nn (by decide)) (Eq.trans k_NuP (k_Nn (by decide))))))))))))) c7) ?_
  refine r_putR h kp_X8_28 (fun _ => k_Me.nm hMe) dX8_init_56 rfl rfl (by decide) rfl rfl ?_
  refine r_aload_n h dX8_init_59 rfl ?_
  refine r_iconst (v := 4) h dX8_init_60 (by decide) ?_
  obtain ⟨c8, hoc⟩ := k_gd hoc
  refine r_newarr h hMe 27 dX8_init_61 wd_87 rfl rfl (fun _ => rfl) (fun _ => rfl) (fun _ _ q => q) (by decide) (by decide) (by decide) (by decide) ?_
  refine r_eqP (Eq.trans (Eq.trans k_NuP (Eq.trans (k_Nn (by decide)) (Eq.trans k_NuP (Eq.trans (k_Nn (by decide)) (Eq.trans k_NuP (Eq.trans (k_Nn (by decide)) (Eq.trans k_NuP (Eq.trans (k_Nn (by decide)) (Eq.trans k_NuP (Eq.trans (k_Nn (by decide)) (Eq.trans k_NuP (Eq.trans (k_Nn (by decide)) (Eq.trans k_NuP (k_Nn (by decide))))))))))))))) c8) ?_
  refine r_putR h kp_X8_31 (fun _ => k_Me.nm hMe) dX8_init_63 rfl rfl (by decide) rfl rfl ?_
  refine r_aload_n h dX8_init_66 rfl ?_
  refine r_bipush (v := 12) h dX8_init_67 (by decide) ?_
  obtain ⟨c9, hoc⟩ := k_gd hoc
  refine r_newarr h hMe 28 dX8_init_69 wd_1046 rfl rfl (fun _ => rfl) (fun _ => rfl) (fun _ _ q => q) (by decide) (by decide) (by decide) (by decide) ?_
  refine r_eqP (Eq.trans (Eq.trans k_NuP (Eq.trans (k_Nn (by decide)) (Eq.trans k_NuP (Eq.trans (k_Nn (by decide)) (Eq.trans k_NuP (Eq.trans (k_Nn (by decide)) (Eq.trans k_NuP (Eq.trans (k_Nn (by decide)) (Eq.trans k_NuP (Eq.trans (k_Nn (by decide)) (Eq.trans k_NuP (Eq.trans (k_Nn (by decide)) (Eq.trans k_NuP (Eq.trans (k_Nn (by decide)) (Eq.trans k_NuP (k_Nn (by decide))))))))))))))))) c9) ?_
  refine r_putR h kp_X8_34 (fun _ => k_Me.nm hMe) dX8_init_71 rfl rfl (by decide) rfl rfl ?_
  refine r_aload_n h dX8_init_74 rfl ?_
  refine r_iconst (v := 5) h dX8_init_75 (by decide) ?_
  refine r_putI (x := 5) h kp_X8_38 dX8_init_76 rfl rfl (by decide) rfl rfl (k_fit_int _) ?_
  refine r_aload_n h dX8_init_79 rfl ?_
  refine r_bipush (v := 20) h dX8_init_80 (by decide) ?_
  obtain ⟨c10, hoc⟩ := k_gd hoc
  refine r_newarr h hMe 29 dX8_init_82 wd_87 rfl rfl (fun _ => rfl) (fun _ => rfl) (fun _ _ q => q) (by decide) (by decide) (by decide) (by decide) ?_
  refine r_eqP (Eq.trans (Eq.trans k_NuI (Eq.trans k_NuP (Eq.trans (k_Nn (by decide)) (Eq.trans k_NuP (Eq.trans (k_Nn (by decide)) (Eq.trans k_NuP (Eq.trans (k_Nn (by decide)) (Eq.trans k_NuP (Eq.trans (k_Nn (by decide)) (Eq.trans k_NuP (Eq.trans (k_Nn (by decide)) (Eq.trans k_NuP (Eq.trans (k_Nn (by decide)) (Eq.trans k_NuP (Eq.trans (k_Nn (by decide)) (Eq.trans k_NuP (Eq.trans (k_Nn (by decide)) (Eq.trans k_NuP (k_Nn (by decide)))))))))))))))))))) c10) ?_
  refine r_putR h kp_X8_42 (fun _ => k_Me.nm hMe) dX8_init_84 rfl rfl (by decide) rfl rfl ?_
  refine r_aload_n h dX8_init_87 rfl ?_
  refine r_bipush (v := 20) h dX8_init_88 (by decide) ?_
  obtain ⟨c11, hoc⟩ := k_gd hoc
  refine r_newarr h hMe 30 dX8_init_90 wd_87 rfl rfl (fun _ => rfl) (fun _ => rfl) (fun _ _ q => q) (by decide) (by decide) (by decide) (by decide) ?_
  refine r_eqP (Eq.trans (Eq.trans k_NuP (Eq.trans (k_Nn (by decide)) (Eq.trans k_NuI (Eq.trans k_NuP (Eq.trans (k_Nn (by decide)) (Eq.trans k_NuP (Eq.trans (k_Nn (by decide)) (Eq.trans k_NuP (Eq.trans (k_Nn (by decide)) (Eq.trans k_NuP (Eq.trans (k_Nn (by decide)) (Eq.trans k_NuP (Eq.trans (k_Nn (by decide)) (Eq.trans k_NuP (Eq.trans (k_Nn (by decide)) (Eq.trans k_NuP (Eq.trans (k_Nn (by decide)) (Eq.trans k_NuP (Eq.trans (k_Nn (by decide)) (Eq.trans k_NuP (k_Nn (by decide)))))))))))))))))))))) c11) ?_
  refine r_putR h kp_X8_45 (fun _ => k_Me.nm hMe) dX8_init_92 rfl rfl (by decide) rfl rfl ?_
  refine r_aload_n h dX8_init_95 rfl ?_
  refine r_bipush (v := 20) h dX8_init_96 (by decide) ?_
  obtain ⟨c12, hoc⟩ := k_gd hoc
  refine r_newarr h hMe 31 dX8_init_98 wd_87 rfl rfl (fun _ => rfl) (fun _ => rfl) (fun _ _ q => q) (by decide) (by decide) (by decide) (by decide) ?_
  refine r_eqP (Eq.trans (Eq.trans k_NuP (Eq.trans (k_Nn (by decide)) (Eq.trans k_NuP (Eq.trans (k_Nn (by decide)) (Eq.trans k_NuI (Eq.trans k_NuP (Eq.trans (k_Nn (by decide)) (Eq.trans k_NuP (Eq.trans (k_Nn (by decide)) (Eq.trans k_NuP (Eq.trans (k_Nn (by decide)) (Eq.trans k_NuP (Eq.trans (k_Nn (by decide)) (Eq.trans k_NuP (Eq.trans (k_Nn (by decide)) (Eq.trans k_NuP (Eq.trans (k_Nn (by decide)) (Eq.trans k_NuP (Eq.trans (k_Nn (by decide)) (Eq.trans k_NuP (Eq.trans (k_Nn (by decide)) (Eq.trans k_NuP (k_Nn (by decide)))))))))))))))))))))))) c12) ?_
  refine r_putR h kp_X8_48 (fun _ => k_Me.nm hMe) dX8_init_100 rfl rfl (by decide) rfl rfl ?_
  refine r_aload_n h dX8_init_103 rfl ?_
  refine r_bipush (v := 20) h dX8_init_104 (by decide) ?_
  obtain ⟨c13, hoc⟩ := k_gd hoc
  refine r_newarr h hMe 32 dX8_init_106 wd_87 rfl rfl (fun _ => rfl) (fun _ => rfl) (fun _ _ q => q) (by decide) (by decide) (by decide) (by decide) ?_
  refine r_eqP (Eq.trans (Eq.trans k_NuP (Eq.trans (k_Nn (by decide)) (Eq.trans k_NuP (Eq.trans (k_Nn (by decide)) (Eq.trans k_NuP (Eq.trans (k_Nn (by decide)) (Eq.trans k_NuI (Eq.trans k_NuP (Eq.trans (k_Nn (by decide)) (Eq.trans k_NuP (Eq.trans (k_Nn (by decide)) (Eq.trans k_NuP (Eq.trans (k_Nn (by decide)) (Eq.trans k_NuP (Eq.trans (k_Nn (by decide)) (Eq.trans k_NuP (Eq.trans (k_Nn (by decide)) (Eq.trans k_NuP (Eq.trans (k_Nn (by decide)) (Eq.trans k_NuP (Eq.trans (k_Nn (by decide)) (Eq.trans k_NuP (Eq.trans (k_Nn (by decide)) (Eq.trans k_NuP (k_Nn (by decide)))))))))))))))))))))))))) c13) ?_
  refine r_putR h kp_X8_51 (fun _ => k_Me.nm hMe) dX8_init_108 rfl rfl (by decide) rfl rfl ?_
  refine r_aload_n h dX8_init_111 rfl ?_
  refine r_bipush (v := 20) h dX8_init_112 (by decide) ?_
  obtain ⟨c14, hoc⟩ := k_gd hoc
  refine r_newarr h hMe 33 dX8_init_114 wd_87 rfl rfl (fun _ => rfl) (fun _ => rfl) (fun _ _ q => q) (by decide) (by decide) (by decide) (by decide) ?_
  refine r_eqP (Eq.trans (Eq.trans k_NuP (Eq.trans (k_Nn (by decide)) (Eq.trans k_NuP (Eq.trans (k_Nn (by decide)) (Eq.trans k_NuP (Eq.trans (k_Nn (by decide)) (Eq.trans k_NuP (Eq.trans (k_Nn (by decide)) (Eq.trans k_NuI (Eq.trans k_NuP (Eq.trans (k_Nn (by decide)) (Eq.trans k_NuP (Eq.trans (k_Nn (by decide)) (Eq.trans k_NuP (Eq.trans (k_Nn (by decide)) (Eq.trans k_NuP (Eq.trans (k_Nn (by decide)) (Eq.trans k_NuP (Eq.trans (k_Nn (by decide)) (Eq.trans k_NuP (Eq.trans (k_Nn (by decide)) (Eq.trans k_NuP (Eq.trans (k_Nn (by decide)) (Eq.trans k_NuP (Eq.trans (k_Nn (by decide)) (Eq.trans k_NuP (k_Nn (by decide)))))))))))))))))))))))))))) c14) ?_
  refine r_putR h kp_X8_54 (fun _ => k_Me.nm hMe) dX8_init_116 rfl rfl (by decide) rfl rfl ?_
  refine r_aload_n h dX8_init_119 rfl ?_
  refine r_bipush (v := 20) h dX8_init_120 (by decide) ?_
  obtain ⟨c15, hoc⟩ := k_gd hoc
  refine r_newarr h hMe 34 dX8_init_122 wd_87 rfl rfl (fun _ => rfl) (fun _ => rfl) (fun _ _ q => q) (by decide) (by decide) (by decide) (by decide) ?_
  refine r_eqP (Eq.trans (Eq.trans k_NuP (Eq.trans (k_Nn (by decide)) (Eq.trans k_NuP (Eq.trans (k_Nn (by decide)) (Eq.trans k_NuP (Eq.trans (k_Nn (by decide)) (Eq.trans k_NuP (Eq.trans (k_Nn (by decide)) (Eq.trans k_NuP (Eq.trans (k_Nn (by decide)) (Eq.trans k_NuI (Eq.trans k_NuP (Eq.trans (k_Nn (by decide)) (Eq.trans k_NuP (Eq.trans (k_Nn (by decide)) (Eq.trans k_NuP (Eq.trans (k_Nn (by decide)) (Eq.trans k_NuP (Eq.trans (k_Nn (by decide)) (Eq.trans k_NuP (Eq.trans (k_Nn (by decide)) (Eq.trans k_NuP (Eq.trans (k_Nn (by decide)) (Eq.trans k_NuP (Eq.trans (k_Nn (by decide)) (Eq.trans k_NuP (Eq.trans (k_Nn (by decide)) (Eq.trans k_NuP (k_Nn (by decide)))))))))))))))))))))))))))))) c15) ?_
  refine r_putR h kp_X8_57 (fun _ => k_Me.nm hMe) dX8_init_124 rfl rfl (by decide) rfl rfl ?_
  refine r_aload_n h dX8_init_127 rfl ?_
  refine r_bipush (v := 20) h dX8_init_128 (by decide) ?_
  obtain ⟨c16, hoc⟩ := k_gd hoc
  refine r_newarr h hMe 35 dX8_init_130 wd_87 rfl rfl (fun _ => rfl) (fun _ => rfl) (fun _ _ q => q) (by decide) (by decide) (by decide) (by decide) ?_
  refine r_eqP (Eq.trans (Eq.trans k_NuP (Eq.trans (k_Nn (by decide)) (Eq.trans k_NuP (Eq.trans (k_Nn (by decide)) (Eq.trans k_NuP (Eq.trans (k_Nn (by decide)) (Eq.trans k_NuP (Eq.trans (k_Nn (by decide)) (Eq.trans k_NuP (Eq.trans (k_Nn (by decide)) (Eq.trans k_NuP (Eq.trans (k_Nn (by decide)) (Eq.trans k_NuI (Eq.trans k_NuP (Eq.trans (k_Nn (by decide)) (Eq.trans k_NuP (Eq.trans (k_Nn (by decide)) (Eq.trans k_NuP (Eq.trans (k_Nn (by decide)) (Eq.trans k_NuP (Eq.trans (k_Nn (by decide)) (Eq.trans k_NuP (Eq.trans (k_Nn (by decide)) (Eq.trans k_NuP (Eq.trans (k_Nn (by decide)) (Eq.trans k_NuP (Eq.trans (k_Nn (by decide)) (Eq.trans k_NuP (Eq.trans (k_Nn (by decide)) (Eq.trans k_NuP (k_Nn (by decide)))))))))))))))))))))))))))))))) c16) ?_
  refine r_putR h kp_X8_60 (fun _ => k_Me.nm hMe) dX8_init_132 rfl rfl (by decide) rfl rfl ?_
  refine r_aload_n h dX8_init_135 rfl ?_
  refine r_bipush (v := 20) h dX8_init_136 (by decide) ?_
  obtain ⟨c17, hoc⟩ := k_gd hoc
  refine r_newarr h hMe 36 dX8_init_138 wd_87 rfl rfl (fun _ => rfl) (fun _ => rfl) (fun _ _ q => q) (by decide) (by decide) (by decide) (by decide) ?_
  refine r_eqP (Eq.trans (Eq.trans k_NuP (Eq.trans (k_Nn (by decide)) (Eq.trans k_NuP (Eq.trans (k_Nn (by decide)) (Eq.trans k_NuP (Eq.trans (k_Nn (by decide)) (Eq.trans k_NuP (Eq.trans (k_Nn (by decide)) (Eq.trans k_NuP (Eq.trans (k_Nn (by decide)) (Eq.trans k_NuP (Eq.trans (k_Nn (by decide)) (Eq.trans k_NuP (Eq.trans (k_Nn (by decide)) (Eq.trans k_NuI (Eq.trans k_NuP (Eq.trans (k_Nn (by decide)) (Eq.trans k_NuP (Eq.trans (k_Nn (by decide)) (Eq.trans k_NuP (Eq.trans (k_Nn (by decide)) (Eq.trans k_NuP (Eq.trans (k_Nn (by decide)) (Eq.trans k_NuP (Eq.trans (k_Nn (by decide)) (Eq.trans k_NuP (Eq.trans (k_Nn (by decide)) (Eq.trans k_NuP (Eq.trans (k_Nn (by decide)) (Eq.trans k_NuP (Eq.trans (k_Nn (by decide)) (Eq.trans k_NuP (k_Nn (by decide)))))))))))))))))))))))))))))))))) c17) ?_
  refine r_putR h kp_X8_63 (fun _ => k_Me.nm hMe) dX8_init_140 rfl rfl (by decide) rfl rfl ?_
  refine r_aload_n h dX8_init_143 rfl ?_
  refine r_bipush (v := 20) h dX8_init_144 (by decide) ?_
  obtain ⟨c18, hoc⟩ := k_gd hoc
  refine r_newarr h hMe 37 dX8_init_146 wd_87 rfl rfl (fun _ => rfl) (fun _ => rfl) (fun _ _ q => q) (by decide) (by decide) (by decide) (by decide) ?_
  refine r_eqP (Eq.trans (Eq.trans k_NuP (Eq.trans (k_Nn (by decide)) (Eq.trans k_NuP (Eq.trans (k_Nn (by decide)) (Eq.trans k_NuP (Eq.trans (k_Nn (by decide)) (Eq.trans k_NuP (Eq.trans (k_Nn (by decide)) (Eq.trans k_NuP (Eq.trans (k_Nn (by decide)) (Eq.trans k_NuP (Eq.trans (k_Nn (by decide)) (Eq.trans k_NuP (Eq.trans (k_Nn (by decide)) (Eq.trans k_NuP (Eq.trans (k_Nn (by decide)) (Eq.trans k_NuI (Eq.trans k_NuP (Eq.trans (k_Nn (by decide)) (Eq.trans k_NuP (Eq.trans (k_Nn (by decide)) (Eq.trans k_NuP (Eq.trans (k_Nn (by decide)) (Eq.trans k_NuP (Eq.trans (k_Nn (by decide)) (Eq.trans k_NuP (Eq.trans (k_Nn (by decide)) (Eq.trans k_NuP (Eq.trans (k_Nn (by decide)) (Eq.trans k_NuP (Eq.trans (k_Nn (by decide)) (Eq.trans k_NuP (Eq.trans (k_Nn (by decide)) (Eq.trans k_NuP (k_Nn (by decide)))))))))))))))))))))))))))))))))))) c18) ?_
  refine r_putR h kp_X8_66 (fun _ => k_Me.nm hMe) dX8_init_148 rfl rfl (by decide) rfl rfl ?_
  refine r_aload_n h dX8_init_151 rfl ?_
  refine r_bipush (v := 20) h dX8_init_152 (by decide) ?_
  obtain ⟨c19, hoc⟩ := k_gd hoc
  refine r_newarr h hMe 38 dX8_init_154 wd_86 rfl rfl (fun _ => rfl) (fun _ => rfl) (fun _ _ q => q) (by decide) (by decide) (by decide) (by decide) ?_
  refine r_eqP (Eq.trans (Eq.trans k_NuP (Eq.trans (k_Nn (by decide)) (Eq.trans k_NuP (Eq.trans (k_Nn (by decide)) (Eq.trans k_NuP (Eq.trans (k_Nn (by decide)) (Eq.trans k_NuP (Eq.trans (k_Nn (by decide)) (Eq.trans k_NuP (Eq.trans (k_Nn (by decide)) (Eq.trans k_NuP (Eq.trans (k_Nn (by decide)) (Eq.trans k_NuP (Eq.trans (k_Nn (by decide)) (Eq.trans k_NuP (Eq.trans (k_Nn (by decide)) (Eq.trans k_NuP (Eq.trans (k_Nn (by decide)) (Eq.trans k_NuI (Eq.trans k_NuP (Eq.trans (k_Nn (by decide)) (Eq.trans k_NuP (Eq.trans (k_Nn (by decide)) (Eq.trans k_NuP (Eq.trans (k_Nn (by decide)) (Eq.trans k_NuP (Eq.trans (k_Nn (by decide)) (Eq.trans k_NuP (Eq.trans (k_Nn (by decide)) (Eq.trans k_NuP (Eq.trans (k_Nn (by decide)) (Eq.trans k_NuP (Eq.trans (k_Nn (by decide)) (Eq.trans k_NuP (Eq.trans (k_Nn (by decide)) (Eq.trans k_NuP (k_Nn (by decide)))))))))))))))))))))))))))))))))))))) c19) ?_
  refine r_putR h kp_X8_69 (fun _ => k_Me.nm hMe) dX8_init_156 rfl rfl (by decide) rfl rfl ?_
  refine r_aload_n h dX8_init_159 rfl ?_
  refine r_bipush (v := 20) h dX8_init_160 (by decide) ?_
  obtain ⟨c20, hoc⟩ := k_gd hoc
  refine r_newarr h hMe 39 dX8_init_162 wd_86 rfl rfl (fun _ => rfl) (fun _ => rfl) (fun _ _ q => q) (by decide) (by decide) (by decide) (by decide) ?_
  refine r_eqP (Eq.trans (Eq.trans k_NuP (Eq.trans (k_Nn (by decide)) (Eq.trans k_NuP (Eq.trans (k_Nn (by decide)) (Eq.trans k_NuP (Eq.trans (k_Nn (by decide)) (Eq.trans k_NuP (Eq.trans (k_Nn (by decide)) (Eq.trans k_NuP (Eq.trans (k_Nn (by decide)) (Eq.trans k_NuP (Eq.trans (k_Nn (by decide)) (Eq.trans k_NuP (Eq.trans (k_Nn (by decide)) (Eq.trans k_NuP (Eq.trans (k_Nn (by decide)) (Eq.trans k_NuP (Eq.trans (k_Nn (by decide)) (Eq.trans k_NuP (Eq.trans (k_Nn (by decide)) (Eq.trans k_NuI (Eq.trans k_NuP (Eq.trans (k_Nn (by decide)) (Eq.trans k_NuP (Eq.trans (k_Nn (by decide)) (Eq.trans k_NuP (Eq.trans (k_Nn (by decide)) (Eq.trans k_NuP (Eq.trans (k_Nn (by decide)) (Eq.trans k_NuP (Eq.trans (k_Nn (by decide)) (Eq.trans k_NuP (Eq.trans (k_Nn (by decide)) (Eq.trans k_NuP (Eq.trans (k_Nn (by decide)) (Eq.trans k_NuP (Eq.trans (k_Nn (by decide)) (Eq.trans k_NuP (k_Nn (by decide)))))))))))))))))))))))))))))))))))))))) c20) ?_
  refine r_putR h kp_X8_73 (fun _ => k_Me.nm hMe) dX8_init_164 rfl rfl (by decide) rfl rfl ?_
  refine r_aload_n h dX8_init_167 rfl ?_
  refine r_bipush (v := 20) h dX8_init_168 (by decide) ?_
  obtain ⟨c21, hoc⟩ := k_gd hoc
  refine r_newarr h hMe 40 dX8_init_170 wd_86 rfl rfl (fun _ => rfl) (fun _ => rfl) (fun _ _ q => q) (by decide) (by decide) (by decide) (by decide) ?_
  refine r_eqP (Eq.trans (Eq.trans k_NuP (Eq.trans (k_Nn (by decide)) (Eq.trans k_NuP (Eq.trans (k_Nn (by decide)) (Eq.trans k_NuP (Eq.trans (k_Nn (by decide)) (Eq.trans k_NuP (Eq.trans (k_Nn (by decide)) (Eq.trans k_NuP (Eq.trans (k_Nn (by decide)) (Eq.trans k_NuP (Eq.trans (k_Nn (by decide)) (Eq.trans k_NuP (Eq.trans (k_Nn (by decide)) (Eq.trans k_NuP (Eq.trans (k_Nn (by decide)) (Eq.trans k_NuP (Eq.trans (k_Nn (by decide)) (Eq.trans k_NuP (Eq.trans (k_Nn (by decide)) (Eq.trans k_NuP (Eq.trans (k_Nn (by decide)) (Eq.trans k_NuI (Eq.trans k_NuP (Eq.trans (k_Nn (by decide)) (Eq.trans k_NuP (Eq.trans (k_Nn (by decide)) (Eq.trans k_NuP (Eq.trans (k_Nn (by decide)) (Eq.trans k_NuP (Eq.trans (k_Nn (by decide)) (Eq.trans k_NuP (Eq.trans (k_Nn (by decide)) (Eq.trans k_NuP (Eq.trans (k_Nn (by decide)) (Eq.trans k_NuP (Eq.trans (k_Nn (by decide)) (Eq.trans k_NuP (Eq.trans (k_Nn (by decide)) (Eq.trans k_NuP (k_Nn (by decide)))))))))))))))))))))))))))))))))))))))))) c21) ?_
  refine r_putR h kp_X8_76 (fun _ => k_Me.nm hMe) dX8_init_172 rfl rfl (by decide) rfl rfl ?_
  refine r_aload_n h dX8_init_175 rfl ?_
  refine r_bipush (v := 20) h dX8_init_176 (by decide) ?_
  refine r_bipush (v := 8) h dX8_init_178 (by decide) ?_
  obtain ⟨c22, hoc⟩ := k_gd hoc
  obtain ⟨c23, hoc⟩ := k_gd hoc
  refine r_mna h hMe hAI wd_944 dX8_init_180 (Eq.trans (Eq.trans k_NuP (Eq.trans (k_Nn (by decide)) (Eq.trans k_NuP (Eq.trans (k_Nn (by decide)) (Eq.trans k_NuP (Eq.trans (k_Nn (by decide)) (Eq.trans k_NuP (Eq.trans (k_Nn (by decide)) (Eq.trans k_NuP (Eq.trans (k_Nn (by decide)) (Eq.trans k_NuP (Eq.trans (k_Nn (by decide)) (Eq.trans k_NuP (Eq.trans (k_Nn (by decide)) (Eq.trans k_NuP (Eq.trans (k_Nn (by decide)) (Eq.trans k_NuP (Eq.trans (k_Nn (by decide)) (Eq.trans k_NuP (Eq.trans (k_Nn (by decide)) (Eq.trans k_NuP (Eq.trans (k_Nn (by decide)) (Eq.trans k_NuP (Eq.trans (k_Nn (by decide)) (Eq.trans k_NuI (Eq.trans k_NuP (Eq.trans (k_Nn (by decide)) (Eq.trans k_NuP (Eq.trans (k_Nn (by decide)) (Eq.trans k_NuP (Eq.trans (k_Nn (by decide)) (Eq.trans k_NuP (Eq.trans (k_Nn (by decide)) (Eq.trans k_NuP (Eq.trans (k_Nn (by decide)) (Eq.trans k_NuP (Eq.trans (k_Nn (by decide)) (Eq.trans k_NuP (Eq.trans (k_Nn (by decide)) (Eq.trans k_NuP (Eq.trans (k_Nn (by decide)) (Eq.trans k_NuP (k_Nn (by decide)))))))))))))))))))))))))))))))))))))))))))) c22) (Eq.trans (Eq.trans k_NuP (Eq.trans (k_Nn (by decide)) (Eq.trans k_NuP (Eq.trans (k_Nn (by decide)) (Eq.trans k_NuP (Eq.trans (k_Nn (by decide)) (Eq.trans k_NuP (Eq.trans (k_Nn (by decide)) (Eq.trans k_NuP (Eq.trans (k_Nn (by decide)) (Eq.trans k_NuP (Eq.trans (k_Nn (by decide)) (Eq.trans k_NuP (Eq.trans (k_Nn (by decide)) (Eq.trans k_NuP (Eq.trans (k_Nn (by decide)) (Eq.trans k_NuP (Eq.trans (k_Nn (by decide)) (Eq.trans k_NuP (Eq.trans (k_Nn (by decide)) (Eq.trans k_NuP (Eq.trans (k_Nn (by decide)) (Eq.trans k_NuP (Eq.trans (k_Nn (by decide)) (Eq.trans k_NuI (Eq.trans k_NuP (Eq.trans (k_Nn (by decide)) (Eq.trans k_NuP (Eq.trans (k_Nn (by decide)) (Eq.trans k_NuP (Eq.trans (k_Nn (by decide)) (Eq.trans k_NuP (Eq.trans (k_Nn (by decide)) (Eq.trans k_NuP (Eq.trans (k_Nn (by decide)) (Eq.trans k_NuP (Eq.trans (k_Nn (by decide)) (Eq.trans k_NuP (Eq.trans (k_Nn (by decide)) (Eq.trans k_NuP (Eq.trans (k_Nn (by decide)) (Eq.trans k_NuP (k_Nn (by decide)))))))))))))))))))))))))))))))))))))))))))) c23) (by decide) ?_
  refine r_putR h kp_X8_81 (fun _ => k_Me.nm hMe) dX8_init_184 rfl rfl (by decide) rfl rfl ?_
  cases hoc
  exact r_return h hEn dX8_init_187 rfl rfl (by decide) (by decide)
