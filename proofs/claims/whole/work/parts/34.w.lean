/-! ===== walks 4 (written by wip/whole/gen_walk.py, emit_walk.py) ===== -/
def f_J6_bitCount_0f7a4 (σ : k_S) (a1 : Int32) : Option Int32 :=
  some (((((((((a1 - (((a1 : Int32).toUInt32 >>> ((1 : Int32).toUInt32 &&& Int32.toUInt32 31)).toInt32 &&& 1431655765)) &&& 858993459) + ((((a1 - (((a1 : Int32).toUInt32 >>> ((1 : Int32).toUInt32 &&& Int32.toUInt32 31)).toInt32 &&& 1431655765)) : Int32).toUInt32 >>> ((2 : Int32).toUInt32 &&& Int32.toUInt32 31)).toInt32 &&& 858993459)) + (((((a1 - (((a1 : Int32).toUInt32 >>> ((1 : Int32).toUInt32 &&& Int32.toUInt32 31)).toInt32 &&& 1431655765)) &&& 858993459) + ((((a1 - (((a1 : Int32).toUInt32 >>> ((1 : Int32).toUInt32 &&& Int32.toUInt32 31)).toInt32 &&& 1431655765)) : Int32).toUInt32 >>> ((2 : Int32).toUInt32 &&& Int32.toUInt32 31)).toInt32 &&& 858993459)) : Int32).toUInt32 >>> ((4 : Int32).toUInt32 &&& Int32.toUInt32 31)).toInt32) &&& 252645135) + (((((((a1 - (((a1 : Int32).toUInt32 >>> ((1 : Int32).toUInt32 &&& Int32.toUInt32 31)).toInt32 &&& 1431655765)) &&& 858993459) + ((((a1 - (((a1 : Int32).toUInt32 >>> ((1 : Int32).toUInt32 &&& Int32.toUInt32 31)).toInt32 &&& 1431655765)) : Int32).toUInt32 >>> ((2 : Int32).toUInt32 &&& Int32.toUInt32 31)).toInt32 &&& 858993459)) + (((((a1 - (((a1 : Int32).toUInt32 >>> ((1 : Int32).toUInt32 &&& Int32.toUInt32 31)).toInt32 &&& 1431655765)) &&& 858993459) + ((((a1 - (((a1 : Int32).toUInt32 >>> ((1 : Int32).toUInt32 &&& Int32.toUInt32 31)).toInt32 &&& 1431655765)) : Int32).toUInt32 >>> ((2 : Int32).toUInt32 &&& Int32.toUInt32 31)).toInt32 &&& 858993459)) : Int32).toUInt32 >>> ((4 : Int32).toUInt32 &&& Int32.toUInt32 31)).toInt32) &&& 252645135) : Int32).toUInt32 >>> ((8 : Int32).toUInt32 &&& Int32.toUInt32 31)).toInt32) + ((((((((a1 - (((a1 : Int32).toUInt32 >>> ((1 : Int32).toUInt32 &&& Int32.toUInt32 31)).toInt32 &&& 1431655765)) &&& 858993459) + ((((a1 - (((a1 : Int32).toUInt32 >>> ((1 : Int32).toUInt32 &&& Int32.toUInt32 31)).toInt32 &&& 1431655765)) : Int32).toUInt32 >>> ((2 : Int32).toUInt32 &&& Int32.toUInt32 31)).toInt32 &&& 858993459)) + (((((a1 - (((a1 : Int32).toUInt32 >>> ((1 : Int32).toUInt32 &&& Int32.toUInt32 31)).toInt32 &&& 1431655765)) &&& 858993459) + ((((a1 - (((a1 : Int32).toUInt32 >>> ((1 : Int32).toUInt32 &&& Int32.toUInt32 31)).toInt32 &&& 1431655765)) : Int32).toUInt32 >>> ((2 : Int32).toUInt32 &&& Int32.toUInt32 31)).toInt32 &&& 858993459)) : Int32).toUInt32 >>> ((4 : Int32).toUInt32 &&& Int32.toUInt32 31)).toInt32) &&& 252645135) + (((((((a1 - (((a1 : Int32).toUInt32 >>> ((1 : Int32).toUInt32 &&& Int32.toUInt32 31)).toInt32 &&& 1431655765)) &&& 858993459) + ((((a1 - (((a1 : Int32).toUInt32 >>> ((1 : Int32).toUInt32 &&& Int32.toUInt32 31)).toInt32 &&& 1431655765)) : Int32).toUInt32 >>> ((2 : Int32).toUInt32 &&& Int32.toUInt32 31)).toInt32 &&& 858993459)) + (((((a1 - (((a1 : Int32).toUInt32 >>> ((1 : Int32).toUInt32 &&& Int32.toUInt32 31)).toInt32 &&& 1431655765)) &&& 858993459) + ((((a1 - (((a1 : Int32).toUInt32 >>> ((1 : Int32).toUInt32 &&& Int32.toUInt32 31)).toInt32 &&& 1431655765)) : Int32).toUInt32 >>> ((2 : Int32).toUInt32 &&& Int32.toUInt32 31)).toInt32 &&& 858993459)) : Int32).toUInt32 >>> ((4 : Int32).toUInt32 &&& Int32.toUInt32 31)).toInt32) &&& 252645135) : Int32).toUInt32 >>> ((8 : Int32).toUInt32 &&& Int32.toUInt32 31)).toInt32) : Int32).toUInt32 >>> ((16 : Int32).toUInt32 &&& Int32.toUInt32 31)).toInt32) &&& 63))
theorem j_J6_bitCount_0f7a4 (la : Launch) (hla : la.flags = flags0) (G : k_G) (σ : k_S) (a1 : Int32) (x : Int32) (hoc : f_J6_bitCount_0f7a4 σ a1 = some x) : k_Ct la G yJ6_bitCount_0f7a4 (k_ws yJ6_bitCount_0f7a4 cJ6_bitCount_0f7a4 1 (Option.some ClassFile.FieldType.int)) { frames := 0, cells := 0, slots := 0, locals := 1 } [k_i (a1)] σ (.inl (k_mI x, σ)) 0 0 := by
  refine k_body hla (by decide +kernel) (k_wl rfl) (Nat.le_of_ble_eq_true rfl) (fun X h hEn hMe => ?_)
  show k_W X σ 0 0 0 [some (k_i (a1))] []
  unfold f_J6_bitCount_0f7a4 at hoc
  refine r_iload_n h dJ6_bitCount_0f7a4_0 rfl ?_
  refine r_iload_n h dJ6_bitCount_0f7a4_1 rfl ?_
  refine r_iconst (v := 1) h dJ6_bitCount_0f7a4_2 (by decide) ?_
  refine r_iushr (v := ((a1 : Int32).toUInt32 >>> ((1 : Int32).toUInt32 &&& Int32.toUInt32 31)).toInt32) h dJ6_bitCount_0f7a4_3 rfl ?_
  refine r_ldcw (v := 1431655765) h dJ6_bitCount_0f7a4_4 wd_211 ?_
  refine r_iand h dJ6_bitCount_0f7a4_7 ?_
  refine r_isub h dJ6_bitCount_0f7a4_8 ?_
  refine r_istore_n (L' := [some (k_i ((a1 - (((a1 : Int32).toUInt32 >>> ((1 : Int32).toUInt32 &&& Int32.toUInt32 31)).toInt32 &&& 1431655765))))]) h dJ6_bitCount_0f7a4_9 (by decide) rfl ?_
  refine r_iload_n h dJ6_bitCount_0f7a4_10 rfl ?_
  refine r_ldcw (v := 858993459) h dJ6_bitCount_0f7a4_11 wd_212 ?_
  refine r_iand h dJ6_bitCount_0f7a4_14 ?_
  refine r_iload_n h dJ6_bitCount_0f7a4_15 rfl ?_
  refine r_iconst (v := 2) h dJ6_bitCount_0f7a4_16 (by decide) ?_
  refine r_iushr (v := (((a1 - (((a1 : Int32).toUInt32 >>> ((1 : Int32).toUInt32 &&& Int32.toUInt32 31)).toInt32 &&& 1431655765)) : Int32).toUInt32 >>> ((2 : Int32).toUInt32 &&& Int32.toUInt32 31)).toInt32) h dJ6_bitCount_0f7a4_17 rfl ?_
  refine r_ldcw (v := 858993459) h dJ6_bitCount_0f7a4_18 wd_212 ?_
  refine r_iand h dJ6_bitCount_0f7a4_21 ?_
  refine r_iadd h dJ6_bitCount_0f7a4_22 ?_
  refine r_istore_n (L' := [some (k_i ((((a1 - (((a1 : Int32).toUInt32 >>> ((1 : Int32).toUInt32 &&& Int32.toUInt32 31)).toInt32 &&& 1431655765)) &&& 858993459) + ((((a1 - (((a1 : Int32).toUInt32 >>> ((1 : Int32).toUInt32 &&& Int32.toUInt32 31)).toInt32 &&& 1431655765)) : Int32).toUInt32 >>> ((2 : Int32).toUInt32 &&& Int32.toUInt32 31)).toInt32 &&& 858993459))))]) h dJ6_bitCount_0f7a4_23 (by decide) rfl ?_
  refine r_iload_n h dJ6_bitCount_0f7a4_24 rfl ?_
  refine r_iload_n h dJ6_bitCount_0f7a4_25 rfl ?_
  refine r_iconst (v := 4) h dJ6_bitCount_0f7a4_26 (by decide) ?_
  refine r_iushr (v := (((((a1 - (((a1 : Int32).toUInt32 >>> ((1 : Int32).toUInt32 &&& Int32.toUInt32 31)).toInt32 &&& 1431655765)) &&& 858993459) + ((((a1 - (((a1 : Int32).toUInt32 >>> ((1 : Int32).toUInt32 &&& Int32.toUInt32 31)).toInt32 &&& 1431655765)) : Int32).toUInt32 >>> ((2 : Int32).toUInt32 &&& Int32.toUInt32 31)).toInt32 &&& 858993459)) : Int32).toUInt32 >>> ((4 : Int32).toUInt32 &&& Int32.toUInt32 31)).toInt32) h dJ6_bitCount_0f7a4_27 rfl ?_
  refine r_iadd h dJ6_bitCount_0f7a4_28 ?_
  refine r_ldcw (v := 252645135) h dJ6_bitCount_0f7a4_29 wd_213 ?_
  refine r_iand h dJ6_bitCount_0f7a4_32 ?_
  refine r_istore_n (L' := [some (k_i ((((((a1 - (((a1 : Int32).toUInt32 >>> ((1 : Int32).toUInt32 &&& Int32.toUInt32 31)).toInt32 &&& 1431655765)) &&& 858993459) + ((((a1 - (((a1 : Int32).toUInt32 >>> ((1 : Int32).toUInt32 &&& Int32.toUInt32 31)).toInt32 &&& 1431655765)) : Int32).toUInt32 >>> ((2 : Int32).toUInt32 &&& Int32.toUInt32 31)).toInt32 &&& 858993459)) + (((((a1 - (((a1 : Int32).toUInt32 >>> ((1 : Int32).toUInt32 &&& Int32.toUInt32 31)).toInt32 &&& 1431655765)) &&& 858993459) + ((((a1 - (((a1 : Int32).toUInt32 >>> ((1 : Int32).toUInt32 &&& Int32.toUInt32 31)).toInt32 &&& 1431655765)) : Int32).toUInt32 >>> ((2 : Int32).toUInt32 &&& Int32.toUInt32 31)).toInt32 &&& 858993459)) : Int32).toUInt32 >>> ((4 : Int32).toUInt32 &&& Int32.toUInt32 31)).toInt32) &&& 252645135)))]) h dJ6_bitCount_0f7a4_33 (by decide) rfl ?_
  refine r_iload_n h dJ6_bitCount_0f7a4_34 rfl ?_
  refine r_iload_n h dJ6_bitCount_0f7a4_35 rfl ?_
  refine r_bipush (v := 8) h dJ6_bitCount_0f7a4_36 (by decide) ?_
  refine r_iushr (v := (((((((a1 - (((a1 : Int32).toUInt32 >>> ((1 : Int32).toUInt32 &&& Int32.toUInt32 31)).toInt32 &&& 1431655765)) &&& 858993459) + ((((a1 - (((a1 : Int32).toUInt32 >>> ((1 : Int32).toUInt32 &&& Int32.toUInt32 31)).toInt32 &&& 1431655765)) : Int32).toUInt32 >>> ((2 : Int32).toUInt32 &&& Int32.toUInt32 31)).toInt32 &&& 858993459)) + (((((a1 - (((a1 : Int32).toUInt32 >>> ((1 : Int32).toUInt32 &&& Int32.toUInt32 31)).toInt32 &&& 1431655765)) &&& 858993459) + ((((a1 - (((a1 : Int32).toUInt32 >>> ((1 : Int32).toUInt32 &&& Int32.toUInt32 31)).toInt32 &&& 1431655765)) : Int32).toUInt32 >>> ((2 : Int32).toUInt32 &&& Int32.toUInt32 31)).toInt32 &&& 858993459)) : Int32).toUInt32 >>> ((4 : Int32).toUInt32 &&& Int32.toUInt32 31)).toInt32) &&& 252645135) : Int32).toUInt32 >>> ((8 : Int32).toUInt32 &&& Int32.toUInt32 31)).toInt32) h dJ6_bitCount_0f7a4_38 rfl ?_
  refine r_iadd h dJ6_bitCount_0f7a4_39 ?_
  refine r_istore_n (L' := [some (k_i (((((((a1 - (((a1 : Int32).toUInt32 >>> ((1 : Int32).toUInt32 &&& Int32.toUInt32 31)).toInt32 &&& 1431655765)) &&& 858993459) + ((((a1 - (((a1 : Int32).toUInt32 >>> ((1 : Int32).toUInt32 &&& Int32.toUInt32 31)).toInt32 &&& 1431655765)) : Int32).toUInt32 >>> ((2 : Int32).toUInt32 &&& Int32.toUInt32 31)).toInt32 &&& 858993459)) + (((((a1 - (((a1 : Int32).toUInt32 >>> ((1 : Int32).toUInt32 &&& Int32.toUInt32 31)).toInt32 &&& 1431655765)) &&& 858993459) + ((((a1 - (((a1 : Int32).toUInt32 >>> ((1 : Int32).toUInt32 &&& Int32.toUInt32 31)).toInt32 &&& 1431655765)) : Int32).toUInt32 >>> ((2 : Int32).toUInt32 &&& Int32.toUInt32 31)).toInt32 &&& 858993459)) : Int32).toUInt32 >>> ((4 : Int32).toUInt32 &&& Int32.toUInt32 31)).toInt32) &&& 252645135) + (((((((a1 - (((a1 : Int32).toUInt32 >>> ((1 : Int32).toUInt32 &&& Int32.toUInt32 31)).toInt32 &&& 1431655765)) &&& 858993459) + ((((a1 - (((a1 : Int32).toUInt32 >>> ((1 : Int32).toUInt32 &&& Int32.toUInt32 31)).toInt32 &&& 1431655765)) : Int32).toUInt32 >>> ((2 : Int32).toUInt32 &&& Int32.toUInt32 31)).toInt32 &&& 858993459)) + (((((a1 - (((a1 : Int32).toUInt32 >>> ((1 : Int32).toUInt32 &&& Int32.toUInt32 31)).toInt32 &&& 1431655765)) &&& 858993459) + ((((a1 - (((a1 : Int32).toUInt32 >>> ((1 : Int32).toUInt32 &&& Int32.toUInt32 31)).toInt32 &&& 1431655765)) : Int32).toUInt32 >>> ((2 : Int32).toUInt32 &&& Int32.toUInt32 31)).toInt32 &&& 858993459)) : Int32).toUInt32 >>> ((4 : Int32).toUInt32 &&& Int32.toUInt32 31)).toInt32) &&& 252645135) : Int32).toUInt32 >>> ((8 : Int32).toUInt32 &&& Int32.toUInt32 31)).toInt32)))]) h dJ6_bitCount_0f7a4_40 (by decide) rfl ?_
  refine r_iload_n h dJ6_bitCount_0f7a4_41 rfl ?_
  refine r_iload_n h dJ6_bitCount_0f7a4_42 rfl ?_
  refine r_bipush (v := 16) h dJ6_bitCount_0f7a4_43 (by decide) ?_
  refine r_iushr (v := ((((((((a1 - (((a1 : Int32).toUInt32 >>> ((1 : Int32).toUInt32 &&& Int32.toUInt32 31)).toInt32 &&& 1431655765)) &&& 858993459) + ((((a1 - (((a1 : Int32).toUInt32 >>> ((1 : Int32).toUInt32 &&& Int32.toUInt32 31)).toInt32 &&& 1431655765)) : Int32).toUInt32 >>> ((2 : Int32).toUInt32 &&& Int32.toUInt32 31)).toInt32 &&& 858993459)) + (((((a1 - (((a1 : Int32).toUInt32 >>> ((1 : Int32).toUInt32 &&& Int32.toUInt32 31)).toInt32 &&& 1431655765)) &&& 858993459) + ((((a1 - (((a1 : Int32).toUInt32 >>> ((1 : Int32).toUInt32 &&& Int32.toUInt32 31)).toInt32 &&& 1431655765)) : Int32).toUInt32 >>> ((2 : Int32).toUInt32 &&& Int32.toUInt32 31)).toInt32 &&& 858993459)) : Int32).toUInt32 >>> ((4 : Int32).toUInt32 &&& Int32.toUInt32 31)).toInt32) &&& 252645135) + (((((((a1 - (((a1 : Int32).toUInt32 >>> ((1 : Int32).toUInt32 &&& Int32.toUInt32 31)).toInt32 &&& 1431655765)) &&& 858993459) + ((((a1 - (((a1 : Int32).toUInt32 >>> ((1 : Int32).toUInt32 &&& Int32.toUInt32 31)).toInt32 &&& 1431655765)) : Int32).toUInt32 >>> ((2 : Int32).toUInt32 &&& Int32.toUInt32 31)).toInt32 &&& 858993459)) + (((((a1 - (((a1 : Int32).toUInt32 >>> ((1 : Int32).toUInt32 &&& Int32.toUInt32 31)).toInt32 &&& 1431655765)) &&& 858993459) + ((((a1 - (((a1 : Int32).toUInt32 >>> ((1 : Int32).toUInt32 &&& Int32.toUInt32 31)).toInt32 &&& 1431655765)) : Int32).toUInt32 >>> ((2 : Int32).toUInt32 &&& Int32.toUInt32 31)).toInt32 &&& 858993459)) : Int32).toUInt32 >>> ((4 : Int32).toUInt32 &&& Int32.toUInt32 31)).toInt32) &&& 252645135) : Int32).toUInt32 >>> ((8 : Int32).toUInt32 &&& Int32.toUInt32 31)).toInt32) : Int32).toUInt32 >>> ((16 : Int32).toUInt32 &&& Int32.toUInt32 31)).toInt32) h dJ6_bitCount_0f7a4_45 rfl ?_
  refine r_iadd h dJ6_bitCount_0f7a4_46 ?_
  refine r_istore_n (L' := [some (k_i ((((((((a1 - (((a1 : Int32).toUInt32 >>> ((1 : Int32).toUInt32 &&& Int32.toUInt32 31)).toInt32 &&& 1431655765)) &&& 858993459) + ((((a1 - (((a1 : Int32).toUInt32 >>> ((1 : Int32).toUInt32 &&& Int32.toUInt32 31)).toInt32 &&& 1431655765)) : Int32).toUInt32 >>> ((2 : Int32).toUInt32 &&& Int32.toUInt32 31)).toInt32 &&& 858993459)) + (((((a1 - (((a1 : Int32).toUInt32 >>> ((1 : Int32).toUInt32 &&& Int32.toUInt32 31)).toInt32 &&& 1431655765)) &&& 858993459) + ((((a1 - (((a1 : Int32).toUInt32 >>> ((1 : Int32).toUInt32 &&& Int32.toUInt32 31)).toInt32 &&& 1431655765)) : Int32).toUInt32 >>> ((2 : Int32).toUInt32 &&& Int32.toUInt32 31)).toInt32 &&& 858993459)) : Int32).toUInt32 >>> ((4 : Int32).toUInt32 &&& Int32.toUInt32 31)).toInt32) &&& 252645135) + (((((((a1 - (((a1 : Int32).toUInt32 >>> ((1 : Int32).toUInt32 &&& Int32.toUInt32 31)).toInt32 &&& 1431655765)) &&& 858993459) + ((((a1 - (((a1 : Int32).toUInt32 >>> ((1 : Int32).toUInt32 &&& Int32.toUInt32 31)).toInt32 &&& 1431655765)) : Int32).toUInt32 >>> ((2 : Int32).toUInt32 &&& Int32.toUInt32 31)).toInt32 &&& 858993459)) + (((((a1 - (((a1 : Int32).toUInt32 >>> ((1 : Int32).toUInt32 &&& Int32.toUInt32 31)).toInt32 &&& 1431655765)) &&& 858993459) + ((((a1 - (((a1 : Int32).toUInt32 >>> ((1 : Int32).toUInt32 &&& Int32.toUInt32 31)).toInt32 &&& 1431655765)) : Int32).toUInt32 >>> ((2 : Int32).toUInt32 &&& Int32.toUInt32 31)).toInt32 &&& 858993459)) : Int32).toUInt32 >>> ((4 : Int32).toUInt32 &&& Int32.toUInt32 31)).toInt32) &&& 252645135) : Int32).toUInt32 >>> ((8 : Int32).toUInt32 &&& Int32.toUInt32 31)).toInt32) + ((((((((a1 - (((a1 : Int32).toUInt32 >>> ((1 : Int32).toUInt32 &&& Int32.toUInt32 31)).toInt32 &&& 1431655765)) &&& 858993459) + ((((a1 - (((a1 : Int32).toUInt32 >>> ((1 : Int32).toUInt32 &&& Int32.toUInt32 31)).toInt32 &&& 1431655765)) : Int32).toUInt32 >>> ((2 : Int32).toUInt32 &&& Int32.toUInt32 31)).toInt32 &&& 858993459)) + (((((a1 - (((a1 : Int32).toUInt32 >>> ((1 : Int32).toUInt32 &&& Int32.toUInt32 31)).toInt32 &&& 1431655765)) &&& 858993459) + ((((a1 - (((a1 : Int32).toUInt32 >>> ((1 : Int32).toUInt32 &&& Int32.toUInt32 31)).toInt32 &&& 1431655765)) : Int32).toUInt32 >>> ((2 : Int32).toUInt32 &&& Int32.toUInt32 31)).toInt32 &&& 858993459)) : Int32).toUInt32 >>> ((4 : Int32).toUInt32 &&& Int32.toUInt32 31)).toInt32) &&& 252645135) + (((((((a1 - (((a1 : Int32).toUInt32 >>> ((1 : Int32).toUInt32 &&& Int32.toUInt32 31)).toInt32 &&& 1431655765)) &&& 858993459) + ((((a1 - (((a1 : Int32).toUInt32 >>> ((1 : Int32).toUInt32 &&& Int32.toUInt32 31)).toInt32 &&& 1431655765)) : Int32).toUInt32 >>> ((2 : Int32).toUInt32 &&& Int32.toUInt32 31)).toInt32 &&& 858993459)) + (((((a1 - (((a1 : Int32).toUInt32 >>> ((1 : Int32).toUInt32 &&& Int32.toUInt32 31)).toInt32 &&& 1431655765)) &&& 858993459) + ((((a1 - (((a1 : Int32).toUInt32 >>> ((1 : Int32).toUInt32 &&& Int32.toUInt32 31)).toInt32 &&& 1431655765)) : Int32).toUInt32 >>> ((2 : Int32).toUInt32 &&& Int32.toUInt32 31)).toInt32 &&& 858993459)) : Int32).toUInt32 >>> ((4 : Int32).toUInt32 &&& Int32.toUInt32 31)).toInt32) &&& 252645135) : Int32).toUInt32 >>> ((8 : Int32).toUInt32 &&& Int32.toUInt32 31)).toInt32) : Int32).toUInt32 >>> ((16 : Int32).toUInt32 &&& Int32.toUInt32 31)).toInt32)))]) h dJ6_bitCount_0f7a4_47 (by decide) rfl ?_
  refine r_iload_n h dJ6_bitCount_0f7a4_48 rfl ?_
  refine r_bipush (v := 63) h dJ6_bitCount_0f7a4_49 (by decide) ?_
  refine r_iand h dJ6_bitCount_0f7a4_51 ?_
  cases hoc
  exact r_ireturn h hEn dJ6_bitCount_0f7a4_52 rfl rfl rfl (by decide) (by decide)
def f_X7_commonKinds (σ : k_S) (a1 : Nat) (a2 : Nat) : Option Int32 :=
  ((f_J6_bitCount_0f7a4 σ ((k_I σ 5 (a1) (3) &&& k_I σ 5 (a2) (3)))).bind fun v1 => some (v1))
theorem j_X7_commonKinds (la : Launch) (hla : la.flags = flags0) (G : k_G) (σ : k_S) (a1 : Nat) (a2 : Nat) (x : Int32) (hoc : f_X7_commonKinds σ a1 a2 = some x) : k_Ct la G yX7_commonKinds (k_ws yX7_commonKinds cX7_commonKinds 2 (Option.some ClassFile.FieldType.int)) { frames := 1, cells := 0, slots := 0, locals := 21 } [k_p 5 (a1), k_p 5 (a2)] σ (.inl (k_mI x, σ)) 0 0 := by
  refine k_body hla (by decide +kernel) (k_wl rfl) (Nat.le_of_ble_eq_true rfl) (fun X h hEn hMe => ?_)
  show k_W X σ 0 0 0 [some (k_p 5 (a1)), some (k_p 5 (a2))] []
  unfold f_X7_commonKinds at hoc
  refine r_aload_n h dX7_commonKinds_0 rfl ?_
  refine r_getI h kf_X7_338 dX7_commonKinds_1 rfl rfl (by decide) rfl ?_
  refine r_aload_n h dX7_commonKinds_4 rfl ?_
  refine r_getI h kf_X7_338 dX7_commonKinds_5 rfl rfl (by decide) rfl ?_
  refine r_iand h dX7_commonKinds_8 ?_
  obtain ⟨v1, q2, hoc⟩ := k_ob hoc
  refine r_callS h hMe (rest := []) (as := [k_i ((k_I σ 5 (a1) (3) &&& k_I σ 5 (a2) (3)))]) (oc := .inl (k_mI v1, σ)) (j_J6_bitCount_0f7a4 la hla G _ ((k_I σ 5 (a1) (3) &&& k_I σ 5 (a2) (3))) _ q2) kl_X7_341 dX7_commonKinds_9 rfl rfl  ⟨rfl, rfl, Nat.le_of_ble_eq_true rfl, Nat.le_of_ble_eq_true rfl, Nat.le_of_ble_eq_true rfl, Nat.le_of_ble_eq_true rfl, Nat.le_of_ble_eq_true rfl⟩ (fun E q => by cases q) (fun r s q => ?_)
  cases q
  show k_W X _ _ _ _ _ ([k_i (v1)])
  cases hoc
  exact r_ireturn h hEn dX7_commonKinds_12 rfl rfl rfl (by decide) (by decide)
def f_X7_precedentFor_l1 (t : Nat) (i0 : Nat) (a1 : Nat) (a2 : Nat) (σ : k_S) (x3 : Int32) (x4 : Int32) (x5 : Int32) : Option (Int32 × Int32 × Int32) := match t with
  | 0 => none
  | t + 1 => (if k_P σ 0 (i0) (3) = some 0 then (if (nI (k_Z σ 15)) ≤ x5 then some ((x3, x4, x5)) else (if x5 = k_I σ 5 (a1) (0) then f_X7_precedentFor_l1 t i0 a1 a2 σ (x3) (x4) ((x5 + 1)) else ((f_X5_isGuiltyOrInnocent σ (a2) (x5)).bind fun v5 => (if v5 = 0 then f_X7_precedentFor_l1 t i0 a1 a2 σ (x3) (x4) ((x5 + 1)) else (if 0 ≤ x5 ∧ (x5 : Int32).toNatClampNeg < k_Z σ 15 ∧ k_Z σ 15 ≤ 200 then ((k_P σ 15 (0) ((x5 : Int32).toNatClampNeg)).bind fun j9 => ((f_X7_commonKinds σ (a1) (j9)).bind fun v11 => (if v11 < (2 : Int32) then f_X7_precedentFor_l1 t i0 a1 a2 σ (x3) (x4) ((x5 + 1)) else (if x4 ≤ v11 then (if x4 < v11 then f_X7_precedentFor_l1 t i0 a1 a2 σ (x5) (v11) ((x5 + 1)) else ((f_X5_turnOf σ (a2) (x5)).bind fun v16 => ((f_X5_turnOf σ (a2) (x3)).bind fun v18 => (if v16 ≤ v18 then f_X7_precedentFor_l1 t i0 a1 a2 σ (x3) (x4) ((x5 + 1)) else f_X7_precedentFor_l1 t i0 a1 a2 σ (x5) (v11) ((x5 + 1)))))) else f_X7_precedentFor_l1 t i0 a1 a2 σ (x3) (x4) ((x5 + 1)))))) else none))))) else none)
theorem j_X7_precedentFor_l1 (la : Launch) (hla : la.flags = flags0) (G : k_G) (X : k_X) (σ0 σ : k_S) (h : k_Ok X RX7 cX7_precedentFor 7) (hMe : k_Me X la G σ0 { frames := 3, cells := 0, slots := 0, locals := 71 } "precedentFor") (i0 : Nat) (a1 : Nat) (a2 : Nat) : ∀ (t : Nat) (x3 : Int32) (x4 : Int32) (x5 : Int32) (e : (Int32 × Int32 × Int32)), f_X7_precedentFor_l1 t i0 a1 a2 σ x3 x4 x5 = some e → k_W X σ 0 0 109 [some (k_p 0 (i0)), some (k_p 5 (a1)), some (k_p 8 (a2)), some (k_i (e.1)), some (k_i (e.2.1)), some (k_i (e.2.2)), none] [] → k_W X σ 0 0 8 [some (k_p 0 (i0)), some (k_p 5 (a1)), some (k_p 8 (a2)), some (k_i (x3)), some (k_i (x4)), some (k_i (x5)), none] [] := by
  intro t
  induction t with
  | zero =>
    intro x3 x4 x5 e hoc kk
    cases hoc
  | succ t ih =>
    intro x3 x4 x5 e hoc kk
    rw [f_X7_precedentFor_l1] at hoc
    refine r_iload h dX7_precedentFor_8 rfl ?_
    refine r_aload_n h dX7_precedentFor_10 rfl ?_
    obtain ⟨q2, hoc⟩ := k_gd hoc
    refine r_getR h kf_X7_22 dX7_precedentFor_11 rfl rfl (by decide) rfl (Eq.trans rfl q2) ?_
    refine r_callL h hMe (rest := [k_i (x5)]) (as := []) (j_size la hla G _ 15 rfl) kl_X7_52 dX7_precedentFor_14 rfl rfl rfl rfl ⟨rfl, rfl, Nat.le_of_ble_eq_true rfl, Nat.le_of_ble_eq_true rfl, Nat.le_of_ble_eq_true rfl, Nat.le_of_ble_eq_true rfl, Nat.le_of_ble_eq_true rfl⟩ (fun E q => by cases q) (fun r s q => ?_)
    cases q
    refine r_icmp_ge (tgt := 109) h dX7_precedentFor_17 (by decide) (fun c3 => ?_) (fun c3 => ?_)
    · replace hoc := (if_pos c3).symm.trans hoc
      cases hoc
      exact kk
    · replace hoc := (if_neg c3).symm.trans hoc
      refine r_iload h dX7_precedentFor_20 rfl ?_
      refine r_aload_n h dX7_precedentFor_22 rfl ?_
      refine r_getI h kf_X7_346 dX7_precedentFor_23 rfl rfl (by decide) rfl ?_
      refine r_icmp_eq (tgt := 103) h dX7_precedentFor_26 (by decide) (fun c4 => ?_) (fun c4 => ?_)
      · replace hoc := (if_pos c4).symm.trans hoc
        refine r_iinc (v := (x5 + 1)) (L' := [some (k_p 0 (i0)), some (k_p 5 (a1)), some (k_p 8 (a2)), some (k_i (x3)), some (k_i (x4)), some (k_i ((x5 + 1))), none]) h dX7_precedentFor_103 rfl rfl (by decide) rfl ?_
        refine r_goto (tgt := 8) h dX7_precedentFor_106 (by decide) ?_
        exact r_forget (L' := [some (k_p 0 (i0)), some (k_p 5 (a1)), some (k_p 8 (a2)), some (k_i (x3)), some (k_i (x4)), some (k_i ((x5 + 1))), none]) (k_le_ok ⟨rfl, ⟨rfl, ⟨rfl, ⟨rfl, ⟨rfl, ⟨rfl, trivial⟩⟩⟩⟩⟩⟩) (ih (x3) (x4) ((x5 + 1)) _ hoc kk)
      · replace hoc := (if_neg c4).symm.trans hoc
        refine r_aload_n h dX7_precedentFor_29 rfl ?_
        refine r_iload h dX7_precedentFor_30 rfl ?_
        obtain ⟨v5, q6, hoc⟩ := k_ob hoc
        refine r_callV h hMe (rest := []) (as := [k_i (x5)]) (oc := .inl (k_mI v5, σ)) (j_X5_isGuiltyOrInnocent la hla G _ (a2) (x5) _ q6) kl_X7_349 dX7_precedentFor_32 rfl rfl rfl rfl rfl ⟨rfl, rfl, Nat.le_of_ble_eq_true rfl, Nat.le_of_ble_eq_true rfl, Nat.le_of_ble_eq_true rfl, Nat.le_of_ble_eq_true rfl, Nat.le_of_ble_eq_true rfl⟩ (fun E q => by cases q) (fun r s q => ?_)
        cases q
        show k_W X _ _ _ _ _ ([k_i (v5)])
        refine r_if_ne (tgt := 41) h dX7_precedentFor_35 (by decide) (fun c7 => ?_) (fun c7 => ?_)
        · replace hoc := (if_neg c7).symm.trans hoc
          refine r_aload_n h dX7_precedentFor_41 rfl ?_
          refine r_aload_n h dX7_precedentFor_42 rfl ?_
          refine r_getR h kf_X7_22 dX7_precedentFor_43 rfl rfl (by decide) rfl (Eq.trans rfl q2) ?_
          refine r_iload h dX7_precedentFor_46 rfl ?_
          obtain ⟨c8, hoc⟩ := k_gd hoc
          obtain ⟨j9, q10, hoc⟩ := k_ob hoc
          refine r_lget h hla hMe (rest := [k_p 5 (a1)]) c8 (Eq.trans rfl q10) rfl kl_X7_117 dX7_precedentFor_48 ⟨Nat.le_of_ble_eq_true rfl, Nat.le_of_ble_eq_true rfl, Nat.le_of_ble_eq_true rfl, Nat.le_of_ble_eq_true rfl, Nat.le_of_ble_eq_true rfl⟩ ?_
          refine r_cast1 h dX7_precedentFor_51 wd_204 rfl rfl rfl ?_
          obtain ⟨v11, q12, hoc⟩ := k_ob hoc
          refine r_callS h hMe (rest := []) (as := [k_p 5 (a1), k_p 5 (j9)]) (oc := .inl (k_mI v11, σ)) (j_X7_commonKinds la hla G _ (a1) (j9) _ q12) kl_X7_278 dX7_precedentFor_54 rfl rfl  ⟨rfl, rfl, Nat.le_of_ble_eq_true rfl, Nat.le_of_ble_eq_true rfl, Nat.le_of_ble_eq_true rfl, Nat.le_of_ble_eq_true rfl, Nat.le_of_ble_eq_true rfl⟩ (fun E q => by cases q) (fun r s q => ?_)
          cases q
          show k_W X _ _ _ _ _ ([k_i (v11)])
          refine r_istore (L' := [some (k_p 0 (i0)), some (k_p 5 (a1)), some (k_p 8 (a2)), some (k_i (x3)), some (k_i (x4)), some (k_i (x5)), some (k_i (v11))]) h dX7_precedentFor_57 (by decide) rfl ?_
          refine r_iload h dX7_precedentFor_59 rfl ?_
          refine r_iconst (v := 2) h dX7_precedentFor_61 (by decide) ?_
          refine r_icmp_lt (tgt := 103) h dX7_precedentFor_62 (by decide) (fun c13 => ?_) (fun c13 => ?_)
          · replace hoc := (if_pos c13).symm.trans hoc
            refine r_iinc (v := (x5 + 1)) (L' := [some (k_p 0 (i0)), some (k_p 5 (a1)), some (k_p 8 (a2)), some (k_i (x3)), some (k_i (x4)), some (k_i ((x5 + 1))), some (k_i (v11))]) h dX7_precedentFor_103 rfl rfl (by decide) rfl ?_
            refine r_goto (tgt := 8) h dX7_precedentFor_106 (by decide) ?_
            exact r_forget (L' := [some (k_p 0 (i0)), some (k_p 5 (a1)), some (k_p 8 (a2)), some (k_i (x3)), some (k_i (x4)), some (k_i ((x5 + 1))), none]) (k_le_ok ⟨rfl, ⟨rfl, ⟨rfl, ⟨rfl, ⟨rfl, ⟨rfl, trivial⟩⟩⟩⟩⟩⟩) (ih (x3) (x4) ((x5 + 1)) _ hoc kk)
          · replace hoc := (if_neg c13).symm.trans hoc
            refine r_iload h dX7_precedentFor_65 rfl ?_
            refine r_iload h dX7_precedentFor_67 rfl ?_
            refine r_icmp_ge (tgt := 75) h dX7_precedentFor_69 (by decide) (fun c14 => ?_) (fun c14 => ?_)
            · replace hoc := (if_pos c14).symm.trans hoc
              refine r_iload h dX7_precedentFor_75 rfl ?_
              refine r_iload h dX7_precedentFor_77 rfl ?_
              refine r_icmp_gt (tgt := 96) h dX7_precedentFor_79 (by decide) (fun c15 => ?_) (fun c15 => ?_)
              · replace hoc := (if_pos c15).symm.trans hoc
                refine r_iload h dX7_precedentFor_96 rfl ?_
                refine r_istore_n (L' := [some (k_p 0 (i0)), some (k_p 5 (a1)), some (k_p 8 (a2)), some (k_i (x5)), some (k_i (x4)), some (k_i (x5)), some (k_i (v11))]) h dX7_precedentFor_98 (by decide) rfl ?_
                refine r_iload h dX7_precedentFor_99 rfl ?_
                refine r_istore (L' := [some (k_p 0 (i0)), some (k_p 5 (a1)), some (k_p 8 (a2)), some (k_i (x5)), some (k_i (v11)), some (k_i (x5)), some (k_i (v11))]) h dX7_precedentFor_101 (by decide) rfl ?_
                refine r_iinc (v := (x5 + 1)) (L' := [some (k_p 0 (i0)), some (k_p 5 (a1)), some (k_p 8 (a2)), some (k_i (x5)), some (k_i (v11)), some (k_i ((x5 + 1))), some (k_i (v11))]) h dX7_precedentFor_103 rfl rfl (by decide) rfl ?_
                refine r_goto (tgt := 8) h dX7_precedentFor_106 (by decide) ?_
                exact r_forget (L' := [some (k_p 0 (i0)), some (k_p 5 (a1)), some (k_p 8 (a2)), some (k_i (x5)), some (k_i (v11)), some (k_i ((x5 + 1))), none]) (k_le_ok ⟨rfl, ⟨rfl, ⟨rfl, ⟨rfl, ⟨rfl, ⟨rfl, trivial⟩⟩⟩⟩⟩⟩) (ih (x5) (v11) ((x5 + 1)) _ hoc kk)
              · replace hoc := (if_neg c15).symm.trans hoc
                refine r_aload_n h dX7_precedentFor_82 rfl ?_
                refine r_iload h dX7_precedentFor_83 rfl ?_
                obtain ⟨v16, q17, hoc⟩ := k_ob hoc
                refine r_callV h hMe (rest := []) (as := [k_i (x5)]) (oc := .inl (k_mI v16, σ)) (j_X5_turnOf la hla G _ (a2) (x5) _ q17) kl_X7_352 dX7_precedentFor_85 rfl rfl rfl rfl rfl ⟨rfl, rfl, Nat.le_of_ble_eq_true rfl, Nat.le_of_ble_eq_true rfl, Nat.le_of_ble_eq_true rfl, Nat.le_of_ble_eq_true rfl, Nat.le_of_ble_eq_true rfl⟩ (fun E q => by cases q) (fun r s q => ?_)
                cases q
                show k_W X _ _ _ _ _ ([k_i (v16)])
                refine r_aload_n h dX7_precedentFor_88 rfl ?_
                refine r_iload_n h dX7_precedentFor_89 rfl ?_
                obtain ⟨v18, q19, hoc⟩ := k_ob hoc
                refine r_callV h hMe (rest := [k_i (v16)]) (as := [k_i (x3)]) (oc := .inl (k_mI v18, σ)) (j_X5_turnOf la hla G _ (a2) (x3) _ q19) kl_X7_352 dX7_precedentFor_90 rfl rfl rfl rfl rfl ⟨rfl, rfl, Nat.le_of_ble_eq_true rfl, Nat.le_of_ble_eq_true rfl, Nat.le_of_ble_eq_true rfl, Nat.le_of_ble_eq_true rfl, Nat.le_of_ble_eq_true rfl⟩ (fun E q => by cases q) (fun r s q => ?_)
                cases q
                show k_W X _ _ _ _ _ ([k_i (v18), k_i (v16)])
                refine r_icmp_le (tgt := 103) h dX7_precedentFor_93 (by decide) (fun c20 => ?_) (fun c20 => ?_)
                · replace hoc := (if_pos c20).symm.trans hoc
                  refine r_iinc (v := (x5 + 1)) (L' := [some (k_p 0 (i0)), some (k_p 5 (a1)), some (k_p 8 (a2)), some (k_i (x3)), some (k_i (x4)), some (k_i ((x5 + 1))), some (k_i (v11))]) h dX7_precedentFor_103 rfl rfl (by decide) rfl ?_
                  refine r_goto (tgt := 8) h dX7_precedentFor_106 (by decide) ?_
                  exact r_forget (L' := [some (k_p 0 (i0)), some (k_p 5 (a1)), some (k_p 8 (a2)), some (k_i (x3)), some (k_i (x4)), some (k_i ((x5 + 1))), none]) (k_le_ok ⟨rfl, ⟨rfl, ⟨rfl, ⟨rfl, ⟨rfl, ⟨rfl, trivial⟩⟩⟩⟩⟩⟩) (ih (x3) (x4) ((x5 + 1)) _ hoc kk)
                · replace hoc := (if_neg c20).symm.trans hoc
                  refine r_iload h dX7_precedentFor_96 rfl ?_
                  refine r_istore_n (L' := [some (k_p 0 (i0)), some (k_p 5 (a1)), some (k_p 8 (a2)), some (k_i (x5)), some (k_i (x4)), some (k_i (x5)), some (k_i (v11))]) h dX7_precedentFor_98 (by decide) rfl ?_
                  refine r_iload h dX7_precedentFor_99 rfl ?_
                  refine r_istore (L' := [some (k_p 0 (i0)), some (k_p 5 (a1)), some (k_p 8 (a2)), some (k_i (x5)), some (k_i (v11)), some (k_i (x5)), some (k_i (v11))]) h dX7_precedentFor_101 (by decide) rfl ?_
                  refine r_iinc (v := (x5 + 1)) (L' := [some (k_p 0 (i0)), some (k_p 5 (a1)), some (k_p 8 (a2)), some (k_i (x5)), some (k_i (v11)), some (k_i ((x5 + 1))), some (k_i (v11))]) h dX7_precedentFor_103 rfl rfl (by decide) rfl ?_
                  refine r_goto (tgt := 8) h dX7_precedentFor_106 (by decide) ?_
                  exact r_forget (L' := [some (k_p 0 (i0)), some (k_p 5 (a1)), some (k_p 8 (a2)), some (k_i (x5)), some (k_i (v11)), some (k_i ((x5 + 1))), none]) (k_le_ok ⟨rfl, ⟨rfl, ⟨rfl, ⟨rfl, ⟨rfl, ⟨rfl, trivial⟩⟩⟩⟩⟩⟩) (ih (x5) (v11) ((x5 + 1)) _ hoc kk)
            · replace hoc := (if_neg c14).symm.trans hoc
              refine r_goto (tgt := 103) h dX7_precedentFor_72 (by decide) ?_
              refine r_iinc (v := (x5 + 1)) (L' := [some (k_p 0 (i0)), some (k_p 5 (a1)), some (k_p 8 (a2)), some (k_i (x3)), some (k_i (x4)), some (k_i ((x5 + 1))), some (k_i (v11))]) h dX7_precedentFor_103 rfl rfl (by decide) rfl ?_
              refine r_goto (tgt := 8) h dX7_precedentFor_106 (by decide) ?_
              exact r_forget (L' := [some (k_p 0 (i0)), some (k_p 5 (a1)), some (k_p 8 (a2)), some (k_i (x3)), some (k_i (x4)), some (k_i ((x5 + 1))), none]) (k_le_ok ⟨rfl, ⟨rfl, ⟨rfl, ⟨rfl, ⟨rfl, ⟨rfl, trivial⟩⟩⟩⟩⟩⟩) (ih (x3) (x4) ((x5 + 1)) _ hoc kk)
        · replace hoc := (if_pos c7).symm.trans hoc
          refine r_goto (tgt := 103) h dX7_precedentFor_38 (by decide) ?_
          refine r_iinc (v := (x5 + 1)) (L' := [some (k_p 0 (i0)), some (k_p 5 (a1)), some (k_p 8 (a2)), some (k_i (x3)), some (k_i (x4)), some (k_i ((x5 + 1))), none]) h dX7_precedentFor_103 rfl rfl (by decide) rfl ?_
          refine r_goto (tgt := 8) h dX7_precedentFor_106 (by decide) ?_
          exact r_forget (L' := [some (k_p 0 (i0)), some (k_p 5 (a1)), some (k_p 8 (a2)), some (k_i (x3)), some (k_i (x4)), some (k_i ((x5 + 1))), none]) (k_le_ok ⟨rfl, ⟨rfl, ⟨rfl, ⟨rfl, ⟨rfl, ⟨rfl, trivial⟩⟩⟩⟩⟩⟩) (ih (x3) (x4) ((x5 + 1)) _ hoc kk)
def f_X7_precedentFor (σ : k_S) (i0 : Nat) (a1 : Nat) (a2 : Nat) : Option Int32 :=
  ((f_X7_precedentFor_l1 200 i0 a1 a2 σ (-1) (0) (0)).bind fun v21 => some (v21.1))
theorem j_X7_precedentFor (la : Launch) (hla : la.flags = flags0) (G : k_G) (σ : k_S) (i0 : Nat) (a1 : Nat) (a2 : Nat) (x : Int32) (hoc : f_X7_precedentFor σ i0 a1 a2 = some x) : k_Ct la G yX7_precedentFor (k_ws yX7_precedentFor cX7_precedentFor 7 (Option.some ClassFile.FieldType.int)) { frames := 3, cells := 0, slots := 0, locals := 71 } [k_p 0 (i0), k_p 5 (a1), k_p 8 (a2)] σ (.inl (k_mI x, σ)) 0 0 := by
  refine k_body hla (by decide +kernel) (k_wl rfl) (Nat.le_of_ble_eq_true rfl) (fun X h hEn hMe => ?_)
  show k_W X σ 0 0 0 [some (k_p 0 (i0)), some (k_p 5 (a1)), some (k_p 8 (a2)), none, none, none, none] []
  unfold f_X7_precedentFor at hoc
  refine r_iconst (v := -1) h dX7_precedentFor_0 (by decide) ?_
  refine r_istore_n (L' := [some (k_p 0 (i0)), some (k_p 5 (a1)), some (k_p 8 (a2)), some (k_i (-1)), none, none, none]) h dX7_precedentFor_1 (by decide) rfl ?_
  refine r_iconst (v := 0) h dX7_precedentFor_2 (by decide) ?_
  refine r_istore (L' := [some (k_p 0 (i0)), some (k_p 5 (a1)), some (k_p 8 (a2)), some (k_i (-1)), some (k_i (0)), none, none]) h dX7_precedentFor_3 (by decide) rfl ?_
  refine r_iconst (v := 0) h dX7_precedentFor_5 (by decide) ?_
  refine r_istore (L' := [some (k_p 0 (i0)), some (k_p 5 (a1)), some (k_p 8 (a2)), some (k_i (-1)), some (k_i (0)), some (k_i (0)), none]) h dX7_precedentFor_6 (by decide) rfl ?_
  obtain ⟨v21, q22, hoc⟩ := k_ob hoc
  refine j_X7_precedentFor_l1 la hla G X σ σ h hMe i0 a1 a2 200 (-1) (0) (0) _ q22 ?_
  refine r_iload_n h dX7_precedentFor_109 rfl ?_
  cases hoc
  exact r_ireturn h hEn dX7_precedentFor_110 rfl rfl rfl (by decide) (by decide)
def f_X7_findOutcome (σ : k_S) (i0 : Nat) (a1 : Nat) (a2 : Int32) (a3 : Int32) (a4 : Nat) : Option Int32 :=
  ((f_X7_ruleFor σ (i0) (a1)).bind fun v1 => (if v1 < 0 then some (110) else (if k_P σ 0 (i0) (0) = some 0 then (if v1 < (nI (k_Z σ 12)) then (if 0 ≤ v1 ∧ (v1 : Int32).toNatClampNeg < k_Z σ 12 ∧ k_Z σ 12 ≤ 200 then ((k_P σ 12 (0) ((v1 : Int32).toNatClampNeg)).bind fun j8 => (if k_I σ 2 (j8) (1) = 0 then some (119) else ((f_X7_precedentFor σ (i0) (a1) (a4)).bind fun v11 => ((f_X5_outcomeOf σ (a4) (v11)).bind fun v13 => (if v13 = (103 : Int32) then (if v13 = (105 : Int32) then (if (a2 + 5) ≤ (a3 + 5) then some (105) else some (103)) else (if (a2 + 5) ≤ (a3 + 0) then some (105) else some (103))) else (if v13 = (105 : Int32) then (if (a2 + 0) ≤ (a3 + 5) then some (105) else some (103)) else (if (a2 + 0) ≤ (a3 + 0) then some (105) else some (103)))))))) else none) else some (110)) else none)))
theorem j_X7_findOutcome (la : Launch) (hla : la.flags = flags0) (G : k_G) (σ : k_S) (i0 : Nat) (a1 : Nat) (a2 : Int32) (a3 : Int32) (a4 : Nat) (x : Int32) (hoc : f_X7_findOutcome σ i0 a1 a2 a3 a4 = some x) : k_Ct la G yX7_findOutcome (k_ws yX7_findOutcome cX7_findOutcome 9 (Option.some ClassFile.FieldType.char)) { frames := 4, cells := 0, slots := 0, locals := 97 } [k_p 0 (i0), k_p 5 (a1), k_i (a2), k_i (a3), k_p 8 (a4)] σ (.inl (k_mI x, σ)) 0 0 := by
  refine k_body hla (by decide +kernel) (k_wl rfl) (Nat.le_of_ble_eq_true rfl) (fun X h hEn hMe => ?_)
  show k_W X σ 0 0 0 [some (k_p 0 (i0)), some (k_p 5 (a1)), some (k_i (a2)), some (k_i (a3)), some (k_p 8 (a4)), none, none, none, none] []
  unfold f_X7_findOutcome at hoc
  refine r_aload_n h dX7_findOutcome_0 rfl ?_
  refine r_aload_n h dX7_findOutcome_1 rfl ?_
  obtain ⟨v1, q2, hoc⟩ := k_ob hoc
  refine r_callV h hMe (rest := []) (as := [k_p 5 (a1)]) (oc := .inl (k_mI v1, σ)) (j_X7_ruleFor la hla G _ (i0) (a1) _ q2) kl_X7_108 dX7_findOutcome_2 rfl rfl rfl rfl rfl ⟨rfl, rfl, Nat.le_of_ble_eq_true rfl, Nat.le_of_ble_eq_true rfl, Nat.le_of_ble_eq_true rfl, Nat.le_of_ble_eq_true rfl, Nat.le_of_ble_eq_true rfl⟩ (fun E q => by cases q) (fun r s q => ?_)
  cases q
  show k_W X _ _ _ _ _ ([k_i (v1)])
  refine r_istore (L' := [some (k_p 0 (i0)), some (k_p 5 (a1)), some (k_i (a2)), some (k_i (a3)), some (k_p 8 (a4)), some (k_i (v1)), none, none, none]) h dX7_findOutcome_5 (by decide) rfl ?_
  refine r_iload h dX7_findOutcome_7 rfl ?_
  refine r_if_lt (tgt := 24) h dX7_findOutcome_9 (by decide) (fun c3 => ?_) (fun c3 => ?_)
  · replace hoc := (if_pos c3).symm.trans hoc
    refine r_bipush (v := 110) h dX7_findOutcome_24 (by decide) ?_
    cases hoc
    exact r_ireturn h hEn dX7_findOutcome_26 rfl (by decide) rfl (by decide) (by decide)
  · replace hoc := (if_neg c3).symm.trans hoc
    refine r_iload h dX7_findOutcome_12 rfl ?_
    refine r_aload_n h dX7_findOutcome_14 rfl ?_
    obtain ⟨q5, hoc⟩ := k_gd hoc
    refine r_getR h kf_X7_10 dX7_findOutcome_15 rfl rfl (by decide) rfl (Eq.trans rfl q5) ?_
    refine r_callL h hMe (rest := [k_i (v1)]) (as := []) (j_size la hla G _ 12 rfl) kl_X7_52 dX7_findOutcome_18 rfl rfl rfl rfl ⟨rfl, rfl, Nat.le_of_ble_eq_true rfl, Nat.le_of_ble_eq_true rfl, Nat.le_of_ble_eq_true rfl, Nat.le_of_ble_eq_true rfl, Nat.le_of_ble_eq_true rfl⟩ (fun E q => by cases q) (fun r s q => ?_)
    cases q
    refine r_icmp_lt (tgt := 27) h dX7_findOutcome_21 (by decide) (fun c6 => ?_) (fun c6 => ?_)
    · replace hoc := (if_pos c6).symm.trans hoc
      refine r_aload_n h dX7_findOutcome_27 rfl ?_
      refine r_getR h kf_X7_10 dX7_findOutcome_28 rfl rfl (by decide) rfl (Eq.trans rfl q5) ?_
      refine r_iload h dX7_findOutcome_31 rfl ?_
      obtain ⟨c7, hoc⟩ := k_gd hoc
      obtain ⟨j8, q9, hoc⟩ := k_ob hoc
      refine r_lget h hla hMe (rest := []) c7 (Eq.trans rfl q9) rfl kl_X7_117 dX7_findOutcome_33 ⟨Nat.le_of_ble_eq_true rfl, Nat.le_of_ble_eq_true rfl, Nat.le_of_ble_eq_true rfl, Nat.le_of_ble_eq_true rfl, Nat.le_of_ble_eq_true rfl⟩ ?_
      refine r_cast1 h dX7_findOutcome_36 wd_183 rfl rfl rfl ?_
      refine r_getI h kf_X7_328 dX7_findOutcome_39 rfl rfl (by decide) rfl ?_
      refine r_if_ne (tgt := 48) h dX7_findOutcome_42 (by decide) (fun c10 => ?_) (fun c10 => ?_)
      · replace hoc := (if_neg c10).symm.trans hoc
        refine r_aload h dX7_findOutcome_48 rfl ?_
        refine r_aload_n h dX7_findOutcome_50 rfl ?_
        refine r_aload_n h dX7_findOutcome_51 rfl ?_
        refine r_aload h dX7_findOutcome_52 rfl ?_
        obtain ⟨v11, q12, hoc⟩ := k_ob hoc
        refine r_callV h hMe (rest := [k_p 8 (a4)]) (as := [k_p 5 (a1), k_p 8 (a4)]) (oc := .inl (k_mI v11, σ)) (j_X7_precedentFor la hla G _ (i0) (a1) (a4) _ q12) kl_X7_215 dX7_findOutcome_54 rfl rfl rfl rfl rfl ⟨rfl, rfl, Nat.le_of_ble_eq_true rfl, Nat.le_of_ble_eq_true rfl, Nat.le_of_ble_eq_true rfl, Nat.le_of_ble_eq_true rfl, Nat.le_of_ble_eq_true rfl⟩ (fun E q => by cases q) (fun r s q => ?_)
        cases q
        show k_W X _ _ _ _ _ ([k_i (v11), k_p 8 (a4)])
        obtain ⟨v13, q14, hoc⟩ := k_ob hoc
        refine r_callV h hMe (rest := []) (as := [k_i (v11)]) (oc := .inl (k_mI v13, σ)) (j_X5_outcomeOf la hla G _ (a4) (v11) _ q14) kl_X7_230 dX7_findOutcome_57 rfl rfl rfl rfl rfl ⟨rfl, rfl, Nat.le_of_ble_eq_true rfl, Nat.le_of_ble_eq_true rfl, Nat.le_of_ble_eq_true rfl, Nat.le_of_ble_eq_true rfl, Nat.le_of_ble_eq_true rfl⟩ (fun E q => by cases q) (fun r s q => ?_)
        cases q
        show k_W X _ _ _ _ _ ([k_i (v13)])
        refine r_istore (L' := [some (k_p 0 (i0)), some (k_p 5 (a1)), some (k_i (a2)), some (k_i (a3)), some (k_p 8 (a4)), some (k_i (v1)), some (k_i (v13)), none, none]) h dX7_findOutcome_60 (by decide) rfl ?_
        refine r_iload_n h dX7_findOutcome_62 rfl ?_
        refine r_iload h dX7_findOutcome_63 rfl ?_
        refine r_bipush (v := 103) h dX7_findOutcome_65 (by decide) ?_
        refine r_icmp_ne (tgt := 74) h dX7_findOutcome_67 (by decide) (fun c15 => ?_) (fun c15 => ?_)
        · replace hoc := (if_neg c15).symm.trans hoc
          refine r_iconst (v := 0) h dX7_findOutcome_74 (by decide) ?_
          refine r_iadd h dX7_findOutcome_75 ?_
          refine r_istore (L' := [some (k_p 0 (i0)), some (k_p 5 (a1)), some (k_i (a2)), some (k_i (a3)), some (k_p 8 (a4)), some (k_i (v1)), some (k_i (v13)), some (k_i ((a2 + 0))), none]) h dX7_findOutcome_76 (by decide) rfl ?_
          refine r_iload_n h dX7_findOutcome_78 rfl ?_
          refine r_iload h dX7_findOutcome_79 rfl ?_
          refine r_bipush (v := 105) h dX7_findOutcome_81 (by decide) ?_
          refine r_icmp_ne (tgt := 90) h dX7_findOutcome_83 (by decide) (fun c16 => ?_) (fun c16 => ?_)
          · replace hoc := (if_neg c16).symm.trans hoc
            refine r_iconst (v := 0) h dX7_findOutcome_90 (by decide) ?_
            refine r_iadd h dX7_findOutcome_91 ?_
            refine r_istore (L' := [some (k_p 0 (i0)), some (k_p 5 (a1)), some (k_i (a2)), some (k_i (a3)), some (k_p 8 (a4)), some (k_i (v1)), some (k_i (v13)), some (k_i ((a2 + 0))), some (k_i ((a3 + 0)))]) h dX7_findOutcome_92 (by decide) rfl ?_
            refine r_iload h dX7_findOutcome_94 rfl ?_
            refine r_iload h dX7_findOutcome_96 rfl ?_
            refine r_icmp_le (tgt := 106) h dX7_findOutcome_98 (by decide) (fun c17 => ?_) (fun c17 => ?_)
            · replace hoc := (if_pos c17).symm.trans hoc
              refine r_bipush (v := 105) h dX7_findOutcome_106 (by decide) ?_
              cases hoc
              exact r_ireturn h hEn dX7_findOutcome_108 rfl (by decide) rfl (by decide) (by decide)
            · replace hoc := (if_neg c17).symm.trans hoc
              refine r_bipush (v := 103) h dX7_findOutcome_101 (by decide) ?_
              refine r_goto (tgt := 108) h dX7_findOutcome_103 (by decide) ?_
              cases hoc
              exact r_ireturn h hEn dX7_findOutcome_108 rfl (by decide) rfl (by decide) (by decide)
          · replace hoc := (if_pos c16).symm.trans hoc
            refine r_iconst (v := 5) h dX7_findOutcome_86 (by decide) ?_
            refine r_goto (tgt := 91) h dX7_findOutcome_87 (by decide) ?_
            refine r_iadd h dX7_findOutcome_91 ?_
            refine r_istore (L' := [some (k_p 0 (i0)), some (k_p 5 (a1)), some (k_i (a2)), some (k_i (a3)), some (k_p 8 (a4)), some (k_i (v1)), some (k_i (v13)), some (k_i ((a2 + 0))), some (k_i ((a3 + 5)))]) h dX7_findOutcome_92 (by decide) rfl ?_
            refine r_iload h dX7_findOutcome_94 rfl ?_
            refine r_iload h dX7_findOutcome_96 rfl ?_
            refine r_icmp_le (tgt := 106) h dX7_findOutcome_98 (by decide) (fun c18 => ?_) (fun c18 => ?_)
            · replace hoc := (if_pos c18).symm.trans hoc
              refine r_bipush (v := 105) h dX7_findOutcome_106 (by decide) ?_
              cases hoc
              exact r_ireturn h hEn dX7_findOutcome_108 rfl (by decide) rfl (by decide) (by decide)
            · replace hoc := (if_neg c18).symm.trans hoc
              refine r_bipush (v := 103) h dX7_findOutcome_101 (by decide) ?_
              refine r_goto (tgt := 108) h dX7_findOutcome_103 (by decide) ?_
              cases hoc
              exact r_ireturn h hEn dX7_findOutcome_108 rfl (by decide) rfl (by decide) (by decide)
        · replace hoc := (if_pos c15).symm.trans hoc
          refine r_iconst (v := 5) h dX7_findOutcome_70 (by decide) ?_
          refine r_goto (tgt := 75) h dX7_findOutcome_71 (by decide) ?_
          refine r_iadd h dX7_findOutcome_75 ?_
          refine r_istore (L' := [some (k_p 0 (i0)), some (k_p 5 (a1)), some (k_i (a2)), some (k_i (a3)), some (k_p 8 (a4)), some (k_i (v1)), some (k_i (v13)), some (k_i ((a2 + 5))), none]) h dX7_findOutcome_76 (by decide) rfl ?_
          refine r_iload_n h dX7_findOutcome_78 rfl ?_
          refine r_iload h dX7_findOutcome_79 rfl ?_
          refine r_bipush (v := 105) h dX7_findOutcome_81 (by decide) ?_
          refine r_icmp_ne (tgt := 90) h dX7_findOutcome_83 (by decide) (fun c19 => ?_) (fun c19 => ?_)
          · replace hoc := (if_neg c19).symm.trans hoc
            refine r_iconst (v := 0) h dX7_findOutcome_90 (by decide) ?_
            refine r_iadd h dX7_findOutcome_91 ?_
            refine r_istore (L' := [some (k_p 0 (i0)), some (k_p 5 (a1)), some (k_i (a2)), some (k_i (a3)), some (k_p 8 (a4)), some (k_i (v1)), some (k_i (v13)), some (k_i ((a2 + 5))), some (k_i ((a3 + 0)))]) h dX7_findOutcome_92 (by decide) rfl ?_
            refine r_iload h dX7_findOutcome_94 rfl ?_
            refine r_iload h dX7_findOutcome_96 rfl ?_
            refine r_icmp_le (tgt := 106) h dX7_findOutcome_98 (by decide) (fun c20 => ?_) (fun c20 => ?_)
            · replace hoc := (if_pos c20).symm.trans hoc
              refine r_bipush (v := 105) h dX7_findOutcome_106 (by decide) ?_
              cases hoc
              exact r_ireturn h hEn dX7_findOutcome_108 rfl (by decide) rfl (by decide) (by decide)
            · replace hoc := (if_neg c20).symm.trans hoc
              refine r_bipush (v := 103) h dX7_findOutcome_101 (by decide) ?_
              refine r_goto (tgt := 108) h dX7_findOutcome_103 (by decide) ?_
              cases hoc
              exact r_ireturn h hEn dX7_findOutcome_108 rfl (by decide) rfl (by decide) (by decide)
          · replace hoc := (if_pos c19).symm.trans hoc
            refine r_iconst (v := 5) h dX7_findOutcome_86 (by decide) ?_
            refine r_goto (tgt := 91) h dX7_findOutcome_87 (by decide) ?_
            refine r_iadd h dX7_findOutcome_91 ?_
            refine r_istore (L' := [some (k_p 0 (i0)), some (k_p 5 (a1)), some (k_i (a2)), some (k_i (a3)), some (k_p 8 (a4)), some (k_i (v1)), some (k_i (v13)), some (k_i ((a2 + 5))), some (k_i ((a3 + 5)))]) h dX7_findOutcome_92 (by decide) rfl ?_
            refine r_iload h dX7_findOutcome_94 rfl ?_
            refine r_iload h dX7_findOutcome_96 rfl ?_
            refine r_icmp_le (tgt := 106) h dX7_findOutcome_98 (by decide) (fun c21 => ?_) (fun c21 => ?_)
            · replace hoc := (if_pos c21).symm.trans hoc
              refine r_bipush (v := 105) h dX7_findOutcome_106 (by decide) ?_
              cases hoc
              exact r_ireturn h hEn dX7_findOutcome_108 rfl (by decide) rfl (by decide) (by decide)
            · replace hoc := (if_neg c21).symm.trans hoc
              refine r_bipush (v := 103) h dX7_findOutcome_101 (by decide) ?_
              refine r_goto (tgt := 108) h dX7_findOutcome_103 (by decide) ?_
              cases hoc
              exact r_ireturn h hEn dX7_findOutcome_108 rfl (by decide) rfl (by decide) (by decide)
      · replace hoc := (if_pos c10).symm.trans hoc
        refine r_bipush (v := 119) h dX7_findOutcome_45 (by decide) ?_
        cases hoc
        exact r_ireturn h hEn dX7_findOutcome_47 rfl (by decide) rfl (by decide) (by decide)
    · replace hoc := (if_neg c6).symm.trans hoc
      refine r_bipush (v := 110) h dX7_findOutcome_24 (by decide) ?_
      cases hoc
      exact r_ireturn h hEn dX7_findOutcome_26 rfl (by decide) rfl (by decide) (by decide)
def f_X7_sanctionAccused (σ : k_S) (i0 : Nat) (a1 : Nat) : Option (Unit × k_S) :=
  ((f_X7_ruleFor σ (i0) (a1)).bind fun v1 => (if v1 < 0 then some (((), σ)) else (if k_P σ 0 (i0) (0) = some 0 then (if v1 < (nI (k_Z σ 12)) then (if 0 ≤ v1 ∧ (v1 : Int32).toNatClampNeg < k_Z σ 12 ∧ k_Z σ 12 ≤ 200 then ((k_P σ 12 (0) ((v1 : Int32).toNatClampNeg)).bind fun j8 => ((k_P σ 5 (a1) (2)).bind fun j10 => ((f_X4_init (k_new σ 6) (k_N σ 6) (j10) (k_I σ 0 (i0) (8)) ((k_I σ 0 (i0) (8) + k_I σ 2 (j8) (3)))).bind fun v12 => (if k_P v12.2 0 (i0) (4) = some 0 then (if k_Z v12.2 16 ≤ 200 then some (((), (k_ladd (k_uP v12.2 5 (a1) (9) (some (k_N σ 6))) 16 (k_N σ 6)))) else none) else none)))) else none) else some (((), σ))) else none)))
theorem j_X7_sanctionAccused (la : Launch) (hla : la.flags = flags0) (G : k_G) (σ : k_S) (i0 : Nat) (a1 : Nat) (x : (Unit × k_S)) (hoc : f_X7_sanctionAccused σ i0 a1 = some x) : k_Ct la G yX7_sanctionAccused (k_ws yX7_sanctionAccused cX7_sanctionAccused 4 (Option.none : Option ClassFile.FieldType)) { frames := 7, cells := 2, slots := 303, locals := 231 } [k_p 0 (i0), k_p 5 (a1)] σ (.inl (k_mU x.1, x.2)) 2 303 := by
  refine k_body hla (by decide +kernel) (k_wl rfl) (Nat.le_of_ble_eq_true rfl) (fun X h hEn hMe => ?_)
  show k_W X σ 0 0 0 [some (k_p 0 (i0)), some (k_p 5 (a1)), none, none] []
  unfold f_X7_sanctionAccused at hoc
  refine r_aload_n h dX7_sanctionAccused_0 rfl ?_
  refine r_aload_n h dX7_sanctionAccused_1 rfl ?_
  obtain ⟨v1, q2, hoc⟩ := k_ob hoc
  refine r_callV h hMe (rest := []) (as := [k_p 5 (a1)]) (oc := .inl (k_mI v1, σ)) (j_X7_ruleFor la hla G _ (i0) (a1) _ q2) kl_X7_108 dX7_sanctionAccused_2 rfl rfl rfl rfl rfl ⟨rfl, rfl, Nat.le_of_ble_eq_true rfl, Nat.le_of_ble_eq_true rfl, Nat.le_of_ble_eq_true rfl, Nat.le_of_ble_eq_true rfl, Nat.le_of_ble_eq_true rfl⟩ (fun E q => by cases q) (fun r s q => ?_)
  cases q
  show k_W X _ _ _ _ _ ([k_i (v1)])
  refine r_istore_n (L' := [some (k_p 0 (i0)), some (k_p 5 (a1)), some (k_i (v1)), none]) h dX7_sanctionAccused_5 (by decide) rfl ?_
  refine r_iload_n h dX7_sanctionAccused_6 rfl ?_
  refine r_if_lt (tgt := 21) h dX7_sanctionAccused_7 (by decide) (fun c3 => ?_) (fun c3 => ?_)
  · replace hoc := (if_pos c3).symm.trans hoc
    cases hoc
    exact r_return h hEn dX7_sanctionAccused_21 rfl rfl (by decide) (by decide)
  · replace hoc := (if_neg c3).symm.trans hoc
    refine r_iload_n h dX7_sanctionAccused_10 rfl ?_
    refine r_aload_n h dX7_sanctionAccused_11 rfl ?_
    obtain ⟨q5, hoc⟩ := k_gd hoc
    refine r_getR h kf_X7_10 dX7_sanctionAccused_12 rfl rfl (by decide) rfl (Eq.trans rfl q5) ?_
    refine r_callL h hMe (rest := [k_i (v1)]) (as := []) (j_size la hla G _ 12 rfl) kl_X7_52 dX7_sanctionAccused_15 rfl rfl rfl rfl ⟨rfl, rfl, Nat.le_of_ble_eq_true rfl, Nat.le_of_ble_eq_true rfl, Nat.le_of_ble_eq_true rfl, Nat.le_of_ble_eq_true rfl, Nat.le_of_ble_eq_true rfl⟩ (fun E q => by cases q) (fun r s q => ?_)
    cases q
    refine r_icmp_lt (tgt := 22) h dX7_sanctionAccused_18 (by decide) (fun c6 => ?_) (fun c6 => ?_)
    · replace hoc := (if_pos c6).symm.trans hoc
      refine r_aload_n h dX7_sanctionAccused_22 rfl ?_
      refine r_getI h kf_X7_41 dX7_sanctionAccused_23 rfl rfl (by decide) rfl ?_
      refine r_aload_n h dX7_sanctionAccused_26 rfl ?_
      refine r_getR h kf_X7_10 dX7_sanctionAccused_27 rfl rfl (by decide) rfl (Eq.trans rfl q5) ?_
      refine r_iload_n h dX7_sanctionAccused_30 rfl ?_
      obtain ⟨c7, hoc⟩ := k_gd hoc
      obtain ⟨j8, q9, hoc⟩ := k_ob hoc
      refine r_lget h hla hMe (rest := [k_i (k_I σ 0 (i0) (8))]) c7 (Eq.trans rfl q9) rfl kl_X7_117 dX7_sanctionAccused_31 ⟨Nat.le_of_ble_eq_true rfl, Nat.le_of_ble_eq_true rfl, Nat.le_of_ble_eq_true rfl, Nat.le_of_ble_eq_true rfl, Nat.le_of_ble_eq_true rfl⟩ ?_
      refine r_cast1 h dX7_sanctionAccused_34 wd_183 rfl rfl rfl ?_
      refine r_getI h kf_X7_366 dX7_sanctionAccused_37 rfl rfl (by decide) rfl ?_
      refine r_iadd h dX7_sanctionAccused_40 ?_
      refine r_istore_n (L' := [some (k_p 0 (i0)), some (k_p 5 (a1)), some (k_i (v1)), some (k_i ((k_I σ 0 (i0) (8) + k_I σ 2 (j8) (3))))]) h dX7_sanctionAccused_41 (by decide) rfl ?_
      refine r_aload_n h dX7_sanctionAccused_42 rfl ?_
      refine r_new h hMe 6 kn_X7_143 dX7_sanctionAccused_43 (by decide) ?_
      refine r_dup h dX7_sanctionAccused_46 rfl ?_
      refine r_aload_n h dX7_sanctionAccused_47 rfl ?_
      obtain ⟨j10, q11, hoc⟩ := k_ob hoc
      refine r_getR h kf_X7_196 dX7_sanctionAccused_48 rfl rfl (by decide) rfl (Eq.trans (k_Pn (by decide)) q11) ?_
      refine r_aload_n h dX7_sanctionAccused_51 rfl ?_
      refine r_getI h kf_X7_41 dX7_sanctionAccused_52 rfl rfl (by decide) rfl ?_
      refine r_eqI (k_In (by decide)) ?_
      refine r_iload_n h dX7_sanctionAccused_55 rfl ?_
      obtain ⟨v12, q13, hoc⟩ := k_ob hoc
      refine r_callI h hMe (rest := [k_p 6 (k_N σ 6), k_p 5 (a1)]) (as := [k_p 3 (j10), k_i (k_I σ 0 (i0) (8)), k_i ((k_I σ 0 (i0) (8) + k_I σ 2 (j8) (3)))]) (oc := .inl (k_mU v12.1, v12.2)) (j_X4_init la hla G _ (k_N σ 6) (j10) (k_I σ 0 (i0) (8)) ((k_I σ 0 (i0) (8) + k_I σ 2 (j8) (3))) _ q13) kl_X7_369 dX7_sanctionAccused_56 rfl rfl  ⟨rfl, rfl, Nat.le_of_ble_eq_true rfl, Nat.le_of_ble_eq_true rfl, Nat.le_of_ble_eq_true rfl, Nat.le_of_ble_eq_true rfl, Nat.le_of_ble_eq_true rfl⟩ (fun E q => by cases q) (fun r s q => ?_)
      cases q
      show k_W X _ _ _ _ _ ([k_p 6 (k_N σ 6), k_p 5 (a1)])
      refine r_putR h kp_X7_259 (fun q => by cases q) dX7_sanctionAccused_59 rfl rfl (by decide) rfl rfl ?_
      refine r_aload_n h dX7_sanctionAccused_62 rfl ?_
      obtain ⟨q15, hoc⟩ := k_gd hoc
      refine r_getR h kf_X7_25 dX7_sanctionAccused_63 rfl rfl (by decide) rfl (Eq.trans (k_P_l (by decide)) q15) ?_
      refine r_aload_n h dX7_sanctionAccused_66 rfl ?_
      refine r_getR h kf_X7_259 dX7_sanctionAccused_67 rfl rfl (by decide) rfl k_P_s ?_
      obtain ⟨c16, hoc⟩ := k_gd hoc
      refine r_callL h hMe (rest := []) (as := [k_p 6 (k_N σ 6)]) (j_add la hla G _ 16 _ rfl (Nat.le_trans (Nat.le_of_eq rfl) c16)) kl_X7_65 dX7_sanctionAccused_70 rfl rfl rfl rfl ⟨rfl, rfl, Nat.le_of_ble_eq_true rfl, Nat.le_of_ble_eq_true rfl, Nat.le_of_ble_eq_true rfl, Nat.le_of_ble_eq_true rfl, Nat.le_of_ble_eq_true rfl⟩ (fun E q => by cases q) (fun r s q => ?_)
      cases q
      refine r_pop h dX7_sanctionAccused_73 rfl ?_
      cases hoc
      exact r_return h hEn dX7_sanctionAccused_74 rfl rfl (by decide) (by decide)
    · replace hoc := (if_neg c6).symm.trans hoc
      cases hoc
      exact r_return h hEn dX7_sanctionAccused_21 rfl rfl (by decide) (by decide)
def f_X7_settle (σ : k_S) (i0 : Nat) (a1 : Nat) (a2 : Int32) (a3 : Int32) : Option (Int32 × k_S) :=
  ((k_P σ 0 (i0) (6)).bind fun j1 => ((f_X7_findOutcome σ (i0) (a1) (a2) (a3) (j1)).bind fun v3 => ((f_X5_enter σ (j1) (k_I σ 5 (a1) (0)) (v3)).bind fun v5 => (if k_P v5.2 0 (i0) (5) = some 0 then ((f_X1_init (k_new v5.2 7) (k_N v5.2 7) (a1) (0) (a2) (a3)).bind fun v9 => (if k_Z v9.2 17 ≤ 200 then (if v3 = (103 : Int32) then ((f_X7_sanctionAccused (k_uI (k_ladd v9.2 17 (k_N v5.2 7)) 5 (a1) (7) (100)) (i0) (a1)).bind fun v14 => (if k_isC (v3) = true then some ((v3, v14.2)) else none)) else (if k_isC (v3) = true then some ((v3, (k_uI (k_ladd v9.2 17 (k_N v5.2 7)) 5 (a1) (7) (100)))) else none)) else none)) else none))))
theorem j_X7_settle (la : Launch) (hla : la.flags = flags0) (G : k_G) (σ : k_S) (i0 : Nat) (a1 : Nat) (a2 : Int32) (a3 : Int32) (x : (Int32 × k_S)) (hoc : f_X7_settle σ i0 a1 a2 a3 = some x) : k_Ct la G yX7_settle (k_ws yX7_settle cX7_settle 5 (Option.some ClassFile.FieldType.char)) { frames := 8, cells := 4, slots := 607, locals := 254 } [k_p 0 (i0), k_p 5 (a1), k_i (a2), k_i (a3)] σ (.inl (k_mI x.1, x.2)) 4 607 := by
  refine k_body hla (by decide +kernel) (k_wl rfl) (Nat.le_of_ble_eq_true rfl) (fun X h hEn hMe => ?_)
  show k_W X σ 0 0 0 [some (k_p 0 (i0)), some (k_p 5 (a1)), some (k_i (a2)), some (k_i (a3)), none] []
  unfold f_X7_settle at hoc
  refine r_aload_n h dX7_settle_0 rfl ?_
  refine r_aload_n h dX7_settle_1 rfl ?_
  refine r_iload_n h dX7_settle_2 rfl ?_
  refine r_iload_n h dX7_settle_3 rfl ?_
  refine r_aload_n h dX7_settle_4 rfl ?_
  obtain ⟨j1, q2, hoc⟩ := k_ob hoc
  refine r_getR h kf_X7_34 dX7_settle_5 rfl rfl (by decide) rfl (Eq.trans rfl q2) ?_
  obtain ⟨v3, q4, hoc⟩ := k_ob hoc
  refine r_callV h hMe (rest := []) (as := [k_p 5 (a1), k_i (a2), k_i (a3), k_p 8 (j1)]) (oc := .inl (k_mI v3, σ)) (j_X7_findOutcome la hla G _ (i0) (a1) (a2) (a3) (j1) _ q4) kl_X7_355 dX7_settle_8 rfl rfl rfl rfl rfl ⟨rfl, rfl, Nat.le_of_ble_eq_true rfl, Nat.le_of_ble_eq_true rfl, Nat.le_of_ble_eq_true rfl, Nat.le_of_ble_eq_true rfl, Nat.le_of_ble_eq_true rfl⟩ (fun E q => by cases q) (fun r s q => ?_)
  cases q
  show k_W X _ _ _ _ _ ([k_i (v3)])
  refine r_istore (L' := [some (k_p 0 (i0)), some (k_p 5 (a1)), some (k_i (a2)), some (k_i (a3)), some (k_i (v3))]) h dX7_settle_11 (by decide) rfl ?_
  refine r_aload_n h dX7_settle_13 rfl ?_
  refine r_getR h kf_X7_34 dX7_settle_14 rfl rfl (by decide) rfl (Eq.trans rfl q2) ?_
  refine r_aload_n h dX7_settle_17 rfl ?_
  refine r_getI h kf_X7_346 dX7_settle_18 rfl rfl (by decide) rfl ?_
  refine r_iload h dX7_settle_21 rfl ?_
  obtain ⟨v5, q6, hoc⟩ := k_ob hoc
  refine r_callV h hMe (rest := []) (as := [k_i (k_I σ 5 (a1) (0)), k_i (v3)]) (oc := .inl (k_mU v5.1, v5.2)) (j_X5_enter la hla G _ (j1) (k_I σ 5 (a1) (0)) (v3) _ q6) kl_X7_359 dX7_settle_23 rfl rfl rfl rfl rfl ⟨rfl, rfl, Nat.le_of_ble_eq_true rfl, Nat.le_of_ble_eq_true rfl, Nat.le_of_ble_eq_true rfl, Nat.le_of_ble_eq_true rfl, Nat.le_of_ble_eq_true rfl⟩ (fun E q => by cases q) (fun r s q => ?_)
  cases q
  show k_W X _ _ _ _ _ ([])
  refine r_aload_n h dX7_settle_26 rfl ?_
  obtain ⟨q8, hoc⟩ := k_gd hoc
  refine r_getR h kf_X7_28 dX7_settle_27 rfl rfl (by decide) rfl (Eq.trans rfl q8) ?_
  refine r_new h hMe 7 kn_X7_254 dX7_settle_30 (by decide) ?_
  refine r_dup h dX7_settle_33 rfl ?_
  refine r_aload_n h dX7_settle_34 rfl ?_
  refine r_iconst (v := 0) h dX7_settle_35 (by decide) ?_
  refine r_iload_n h dX7_settle_36 rfl ?_
  refine r_iload_n h dX7_settle_37 rfl ?_
  obtain ⟨v9, q10, hoc⟩ := k_ob hoc
  refine r_callI h hMe (rest := [k_p 7 (k_N v5.2 7), k_p 17 (0)]) (as := [k_p 5 (a1), k_i (0), k_i (a2), k_i (a3)]) (oc := .inl (k_mU v9.1, v9.2)) (j_X1_init la hla G _ (k_N v5.2 7) (a1) (0) (a2) (a3) _ q10) kl_X7_256 dX7_settle_38 rfl rfl  ⟨rfl, rfl, Nat.le_of_ble_eq_true rfl, Nat.le_of_ble_eq_true rfl, Nat.le_of_ble_eq_true rfl, Nat.le_of_ble_eq_true rfl, Nat.le_of_ble_eq_true rfl⟩ (fun E q => by cases q) (fun r s q => ?_)
  cases q
  show k_W X _ _ _ _ _ ([k_p 7 (k_N v5.2 7), k_p 17 (0)])
  obtain ⟨c11, hoc⟩ := k_gd hoc
  refine r_callL h hMe (rest := []) (as := [k_p 7 (k_N v5.2 7)]) (j_add la hla G _ 17 _ rfl (Nat.le_trans (Nat.le_of_eq rfl) c11)) kl_X7_65 dX7_settle_41 rfl rfl rfl rfl ⟨rfl, rfl, Nat.le_of_ble_eq_true rfl, Nat.le_of_ble_eq_true rfl, Nat.le_of_ble_eq_true rfl, Nat.le_of_ble_eq_true rfl, Nat.le_of_ble_eq_true rfl⟩ (fun E q => by cases q) (fun r s q => ?_)
  cases q
  refine r_pop h dX7_settle_44 rfl ?_
  refine r_aload_n h dX7_settle_45 rfl ?_
  refine r_bipush (v := 100) h dX7_settle_46 (by decide) ?_
  refine r_putI (x := 100) h kp_X7_185 dX7_settle_48 rfl rfl (by decide) rfl rfl ⟨by decide, by decide⟩ ?_
  refine r_iload h dX7_settle_51 rfl ?_
  refine r_bipush (v := 103) h dX7_settle_53 (by decide) ?_
  refine r_icmp_ne (tgt := 63) h dX7_settle_55 (by decide) (fun c12 => ?_) (fun c12 => ?_)
  · replace hoc := (if_neg c12).symm.trans hoc
    refine r_iload h dX7_settle_63 rfl ?_
    obtain ⟨c13, hoc⟩ := k_gd hoc
    cases hoc
    exact r_ireturn h hEn dX7_settle_65 rfl (k_nC c13) rfl (by decide) (by decide)
  · replace hoc := (if_pos c12).symm.trans hoc
    refine r_aload_n h dX7_settle_58 rfl ?_
    refine r_aload_n h dX7_settle_59 rfl ?_
    obtain ⟨v14, q15, hoc⟩ := k_ob hoc
    refine r_callV h hMe (rest := []) (as := [k_p 5 (a1)]) (oc := .inl (k_mU v14.1, v14.2)) (j_X7_sanctionAccused la hla G _ (i0) (a1) _ q15) kl_X7_363 dX7_settle_60 rfl rfl rfl rfl rfl ⟨rfl, rfl, Nat.le_of_ble_eq_true rfl, Nat.le_of_ble_eq_true rfl, Nat.le_of_ble_eq_true rfl, Nat.le_of_ble_eq_true rfl, Nat.le_of_ble_eq_true rfl⟩ (fun E q => by cases q) (fun r s q => ?_)
    cases q
    show k_W X _ _ _ _ _ ([])
    refine r_iload h dX7_settle_63 rfl ?_
    obtain ⟨c16, hoc⟩ := k_gd hoc
    cases hoc
    exact r_ireturn h hEn dX7_settle_65 rfl (k_nC c16) rfl (by decide) (by decide)
