/-! ===== what calls, fields and makings need of the tables (written by wip/whole/gen_facts.py) ===== -/
theorem kl_L_119 : k_ClI RL 119 yX7_init prog_1_method_1_code 1 0 := ⟨⟨wd_33, wd_1, wd_35, ⟨by decide +kernel, by decide +kernel⟩, by decide +kernel⟩, rfl, wd_34⟩
theorem kl_X7_9 : k_ClI RX7 9 yJx4a65c_init_da8c8 prog_29_method_2_code 1 0 := ⟨⟨wd_41, wd_4, wd_43, ⟨by decide +kernel, by decide +kernel⟩, by decide +kernel⟩, rfl, wd_42⟩
theorem kl_Jx4a65c_1 : k_ClI RJx4a65c 1 yJxc12de_init_da8c8 prog_28_method_1_code 1 0 := ⟨⟨wd_44, wd_3, wd_46, ⟨by decide +kernel, by decide +kernel⟩, by decide +kernel⟩, rfl, wd_45⟩
theorem kl_Jxc12de_1 : k_ClI RJxc12de 1 yJxa1e45_init_da8c8 prog_27_method_1_code 1 0 := ⟨⟨wd_47, wd_2, wd_49, ⟨by decide +kernel, by decide +kernel⟩, by decide +kernel⟩, rfl, wd_48⟩
theorem kl_X7_33 : k_ClI RX7 33 yX5_init prog_7_method_1_code 1 0 := ⟨⟨wd_67, wd_5, wd_69, ⟨by decide +kernel, by decide +kernel⟩, by decide +kernel⟩, rfl, wd_68⟩
theorem kl_X5_19 : k_ClV RX5 19 yX5_wipe prog_7_method_2_code 2 (Option.none : Option ClassFile.FieldType) 0 := ⟨⟨wd_71, wd_5, wd_74, ⟨by decide +kernel, by decide +kernel⟩, by decide +kernel⟩, wd_72, wd_73⟩
theorem kl_L_206 : k_ClV RL 206 yX7_today prog_1_method_26_code 1 (Option.some ClassFile.FieldType.int) 0 := ⟨⟨wd_119, wd_1, wd_122, ⟨by decide +kernel, by decide +kernel⟩, by decide +kernel⟩, wd_120, wd_121⟩
theorem kl_L_213 : k_ClV RL 213 yX7_decisions prog_1_method_28_code 1 (Option.some ClassFile.FieldType.int) 0 := ⟨⟨wd_123, wd_1, wd_126, ⟨by decide +kernel, by decide +kernel⟩, by decide +kernel⟩, wd_124, wd_125⟩
theorem kl_L_231 : k_ClV RL 231 yX7_sanctionDays prog_1_method_33_code 4 (Option.some ClassFile.FieldType.long) 0 := ⟨⟨wd_127, wd_1, wd_130, ⟨by decide +kernel, by decide +kernel⟩, by decide +kernel⟩, wd_128, wd_129⟩
theorem kl_X7_52 : k_ClV RX7 52 yJx4a65c_size_8abf5 prog_29_method_8_code 1 (Option.some ClassFile.FieldType.int) 0 := ⟨⟨wd_131, wd_4, wd_134, ⟨by decide +kernel, by decide +kernel⟩, by decide +kernel⟩, wd_132, wd_133⟩
theorem kl_X7_117 : k_ClV RX7 117 yJx4a65c_get_915e3 prog_29_method_20_code 2 (Option.some (ClassFile.FieldType.object "java/lang/Object")) 1 := ⟨⟨wd_135, wd_4, wd_138, ⟨by decide +kernel, by decide +kernel⟩, by decide +kernel⟩, wd_136, wd_137⟩
theorem kl_Jx4a65c_118 : k_ClS RJx4a65c 118 yJ15_checkIndex_7cf53 prog_34_method_17_code 2 (Option.some ClassFile.FieldType.int) 2 := ⟨⟨wd_139, wd_20, wd_141, ⟨by decide +kernel, by decide +kernel⟩, by decide +kernel⟩, wd_140⟩
theorem kl_J15_105 : k_ClS RJ15 105 yJ3_checkIndex_8e157 prog_38_method_11_code 3 (Option.some ClassFile.FieldType.int) 3 := ⟨⟨wd_142, wd_21, wd_144, ⟨by decide +kernel, by decide +kernel⟩, by decide +kernel⟩, wd_143⟩
theorem kl_Jx4a65c_123 : k_ClV RJx4a65c 123 yJx4a65c_elementData_915e3 prog_29_method_18_code 2 (Option.some (ClassFile.FieldType.object "java/lang/Object")) 1 := ⟨⟨wd_145, wd_4, wd_148, ⟨by decide +kernel, by decide +kernel⟩, by decide +kernel⟩, wd_146, wd_147⟩
theorem kl_X7_306 : k_ClV RX7 306 yX4_daysBefore prog_6_method_4_code 2 (Option.some ClassFile.FieldType.int) 1 := ⟨⟨wd_150, wd_28, wd_153, ⟨by decide +kernel, by decide +kernel⟩, by decide +kernel⟩, wd_151, wd_152⟩
theorem kl_X4_20 : k_ClS RX4 20 yJ9_min_7cf53 prog_21_method_69_code 2 (Option.some ClassFile.FieldType.int) 2 := ⟨⟨wd_154, wd_14, wd_156, ⟨by decide +kernel, by decide +kernel⟩, by decide +kernel⟩, wd_155⟩
theorem kl_L_236 : k_ClV RL 236 yX7_isConsistent prog_1_method_34_code 4 (Option.some ClassFile.FieldType.boolean) 0 := ⟨⟨wd_157, wd_1, wd_160, ⟨by decide +kernel, by decide +kernel⟩, by decide +kernel⟩, wd_158, wd_159⟩
theorem kl_X7_234 : k_ClV RX7 234 yX7_settleAllAnew prog_1_method_53_code 4 (Option.none : Option ClassFile.FieldType) 0 := ⟨⟨wd_161, wd_1, wd_164, ⟨by decide +kernel, by decide +kernel⟩, by decide +kernel⟩, wd_163, ws_0⟩
theorem kl_X7_376 : k_ClV RX7 376 yX5_wipe prog_7_method_2_code 2 (Option.none : Option ClassFile.FieldType) 0 := ⟨⟨wd_165, wd_5, wd_74, ⟨by decide +kernel, by decide +kernel⟩, by decide +kernel⟩, wd_72, wd_73⟩
theorem kl_X7_251 : k_ClV RX7 251 yX5_lift prog_7_method_4_code 2 (Option.none : Option ClassFile.FieldType) 1 := ⟨⟨wd_167, wd_5, wd_170, ⟨by decide +kernel, by decide +kernel⟩, by decide +kernel⟩, wd_168, wd_169⟩
theorem kl_X5_26 : k_ClV RX5 26 yX5_isWithin prog_7_method_8_code 2 (Option.some ClassFile.FieldType.boolean) 1 := ⟨⟨wd_171, wd_5, wd_174, ⟨by decide +kernel, by decide +kernel⟩, by decide +kernel⟩, wd_173, ws_1⟩
theorem kl_X7_355 : k_ClV RX7 355 yX7_findOutcome prog_1_method_49_code 9 (Option.some ClassFile.FieldType.char) 4 := ⟨⟨wd_175, wd_1, wd_178, ⟨by decide +kernel, by decide +kernel⟩, by decide +kernel⟩, wd_177, ws_2⟩
theorem kl_X7_108 : k_ClV RX7 108 yX7_ruleFor prog_1_method_45_code 6 (Option.some ClassFile.FieldType.int) 1 := ⟨⟨wd_179, wd_1, wd_182, ⟨by decide +kernel, by decide +kernel⟩, by decide +kernel⟩, wd_181, ws_3⟩
theorem kl_X7_100 : k_ClV RX7 100 yX3_holdsOn prog_5_method_2_code 2 (Option.some ClassFile.FieldType.boolean) 1 := ⟨⟨wd_184, wd_12, wd_187, ⟨by decide +kernel, by decide +kernel⟩, by decide +kernel⟩, wd_185, wd_186⟩
theorem kl_X7_334 : k_ClV RX7 334 yX2_tells prog_4_method_2_code 2 (Option.some ClassFile.FieldType.boolean) 1 := ⟨⟨wd_188, wd_25, wd_191, ⟨by decide +kernel, by decide +kernel⟩, by decide +kernel⟩, wd_189, wd_190⟩
theorem kl_X7_215 : k_ClV RX7 215 yX7_precedentFor prog_1_method_48_code 7 (Option.some ClassFile.FieldType.int) 2 := ⟨⟨wd_192, wd_1, wd_195, ⟨by decide +kernel, by decide +kernel⟩, by decide +kernel⟩, wd_194, ws_4⟩
theorem kl_X7_349 : k_ClV RX7 349 yX5_isGuiltyOrInnocent prog_7_method_7_code 3 (Option.some ClassFile.FieldType.boolean) 1 := ⟨⟨wd_196, wd_5, wd_199, ⟨by decide +kernel, by decide +kernel⟩, by decide +kernel⟩, wd_197, wd_198⟩
theorem kl_X5_30 : k_ClV RX5 30 yX5_outcomeOf prog_7_method_5_code 2 (Option.some ClassFile.FieldType.char) 1 := ⟨⟨wd_200, wd_5, wd_203, ⟨by decide +kernel, by decide +kernel⟩, by decide +kernel⟩, wd_201, wd_202⟩
theorem kl_X7_278 : k_ClS RX7 278 yX7_commonKinds prog_1_method_47_code 2 (Option.some ClassFile.FieldType.int) 2 := ⟨⟨wd_205, wd_1, wd_207, ⟨by decide +kernel, by decide +kernel⟩, by decide +kernel⟩, wd_206⟩
theorem kl_X7_341 : k_ClS RX7 341 yJ6_bitCount_0f7a4 prog_19_method_49_code 1 (Option.some ClassFile.FieldType.int) 1 := ⟨⟨wd_208, wd_26, wd_210, ⟨by decide +kernel, by decide +kernel⟩, by decide +kernel⟩, wd_209⟩
theorem kl_X7_352 : k_ClV RX7 352 yX5_turnOf prog_7_method_6_code 2 (Option.some ClassFile.FieldType.int) 1 := ⟨⟨wd_214, wd_5, wd_217, ⟨by decide +kernel, by decide +kernel⟩, by decide +kernel⟩, wd_215, wd_216⟩
theorem kl_X7_230 : k_ClV RX7 230 yX5_outcomeOf prog_7_method_5_code 2 (Option.some ClassFile.FieldType.char) 1 := ⟨⟨wd_218, wd_5, wd_203, ⟨by decide +kernel, by decide +kernel⟩, by decide +kernel⟩, wd_201, wd_202⟩
theorem kl_X7_359 : k_ClV RX7 359 yX5_enter prog_7_method_3_code 3 (Option.none : Option ClassFile.FieldType) 2 := ⟨⟨wd_219, wd_5, wd_222, ⟨by decide +kernel, by decide +kernel⟩, by decide +kernel⟩, wd_220, wd_221⟩
theorem kl_L_123 : Cond.methodLink RL 123 yL_addRule ∈ k_Tb ∧ Cond.initialized yL_addRule.cls ∈ k_Tb ∧ Cond.codeWith yL_addRule method_3_code 8 (Option.some ClassFile.FieldType.int) [((0 : Nat), (16 : Nat), (19 : Nat), (13 : Nat)), ((0 : Nat), (16 : Nat), (23 : Nat), (15 : Nat))] ∈ k_Tb ∧ (yL_addRule.cls ≠ "java/lang/invoke/MethodHandle" ∧ yL_addRule.cls ≠ "java/lang/invoke/VarHandle") ∧ (parseMethodDescriptor yL_addRule.desc).map (fun d => d.parameters.length) = some 7 ∧ Cond.static yL_addRule ∈ k_Tb := ⟨wd_224, wd_0, wd_226, ⟨by decide +kernel, by decide +kernel⟩, by decide +kernel, wd_225⟩
theorem kl_L_7 : k_ClV RL 7 yX7_addRule prog_1_method_2_code 6 (Option.some ClassFile.FieldType.int) 5 := ⟨⟨wd_229, wd_1, wd_232, ⟨by decide +kernel, by decide +kernel⟩, by decide +kernel⟩, wd_230, wd_231⟩
theorem kl_X7_48 : k_ClS RX7 48 yX7_requireWithin prog_1_method_35_code 3 (Option.none : Option ClassFile.FieldType) 3 := ⟨⟨wd_233, wd_1, wd_235, ⟨by decide +kernel, by decide +kernel⟩, by decide +kernel⟩, wd_234⟩
theorem kl_X7_56 : k_ClS RX7 56 yX7_requireRoom prog_1_method_36_code 2 (Option.none : Option ClassFile.FieldType) 2 := ⟨⟨wd_308, wd_1, wd_310, ⟨by decide +kernel, by decide +kernel⟩, by decide +kernel⟩, wd_309⟩
theorem kl_X7_62 : k_ClI RX7 62 yX3_init prog_5_method_1_code 6 5 := ⟨⟨wd_328, wd_12, wd_330, ⟨by decide +kernel, by decide +kernel⟩, by decide +kernel⟩, rfl, wd_329⟩
theorem kl_X7_65 : k_ClV RX7 65 yJx4a65c_add_9ea2d prog_29_method_25_code 2 (Option.some ClassFile.FieldType.boolean) 1 := ⟨⟨wd_357, wd_4, wd_360, ⟨by decide +kernel, by decide +kernel⟩, by decide +kernel⟩, wd_358, wd_359⟩
theorem kl_Jx4a65c_131 : k_ClV RJx4a65c 131 yJx4a65c_add_72be8 prog_29_method_24_code 4 (Option.none : Option ClassFile.FieldType) 3 := ⟨⟨wd_361, wd_4, wd_364, ⟨by decide +kernel, by decide +kernel⟩, by decide +kernel⟩, wd_363, ws_6⟩
theorem kl_Jx4a65c_129 : k_ClV RJx4a65c 129 yJx4a65c_grow_d5877 prog_29_method_7_code 1 (Option.some (ClassFile.FieldType.array (ClassFile.FieldType.object "java/lang/Object"))) 0 := ⟨⟨wd_365, wd_4, wd_368, ⟨by decide +kernel, by decide +kernel⟩, by decide +kernel⟩, wd_367, ws_7⟩
theorem kl_Jx4a65c_69 : k_ClV RJx4a65c 69 yJx4a65c_grow_92f84 prog_29_method_6_code 4 (Option.some (ClassFile.FieldType.array (ClassFile.FieldType.object "java/lang/Object"))) 1 := ⟨⟨wd_369, wd_4, wd_372, ⟨by decide +kernel, by decide +kernel⟩, by decide +kernel⟩, wd_371, ws_8⟩
theorem kl_Jx4a65c_73 : k_ClS RJx4a65c 73 yJ8_newLength_cabcc prog_37_method_27_code 4 (Option.some ClassFile.FieldType.int) 3 := ⟨⟨wd_373, wd_13, wd_375, ⟨by decide +kernel, by decide +kernel⟩, by decide +kernel⟩, wd_374⟩
theorem kl_J8_194 : k_ClS RJ8 194 yJ9_max_7cf53 prog_21_method_65_code 2 (Option.some ClassFile.FieldType.int) 2 := ⟨⟨wd_376, wd_14, wd_378, ⟨by decide +kernel, by decide +kernel⟩, by decide +kernel⟩, wd_377⟩
theorem kl_J8_201 : k_ClS RJ8 201 yJ8_hugeLength_7cf53 prog_37_method_28_code 3 (Option.some ClassFile.FieldType.int) 2 := ⟨⟨wd_380, wd_13, wd_382, ⟨by decide +kernel, by decide +kernel⟩, by decide +kernel⟩, wd_381⟩
theorem kl_Jx4a65c_66 : k_ClS RJx4a65c 66 yJ7_copyOf_1904c prog_30_method_119_code 2 (Option.some (ClassFile.FieldType.array (ClassFile.FieldType.object "java/lang/Object"))) 2 := ⟨⟨wd_383, wd_15, wd_385, ⟨by decide +kernel, by decide +kernel⟩, by decide +kernel⟩, wd_384⟩
theorem kl_J7_300 : k_ClS RJ7 300 yJ7_copyOf_6403c prog_30_method_120_code 4 (Option.some (ClassFile.FieldType.array (ClassFile.FieldType.object "java/lang/Object"))) 3 := ⟨⟨wd_407, wd_15, wd_409, ⟨by decide +kernel, by decide +kernel⟩, by decide +kernel⟩, wd_408⟩
theorem kl_J7_304 : k_ClS RJ7 304 yJ9_min_7cf53 prog_21_method_69_code 2 (Option.some ClassFile.FieldType.int) 2 := ⟨⟨wd_413, wd_14, wd_156, ⟨by decide +kernel, by decide +kernel⟩, by decide +kernel⟩, wd_155⟩
theorem kl_Jx4a65c_79 : k_ClS RJx4a65c 79 yJ9_max_7cf53 prog_21_method_65_code 2 (Option.some ClassFile.FieldType.int) 2 := ⟨⟨wd_417, wd_14, wd_378, ⟨by decide +kernel, by decide +kernel⟩, by decide +kernel⟩, wd_377⟩
theorem kl_L_133 : Cond.methodLink RL 133 yL_repeal ∈ k_Tb ∧ Cond.initialized yL_repeal.cls ∈ k_Tb ∧ Cond.codeWith yL_repeal method_4_code 5 (Option.some ClassFile.FieldType.int) [((0 : Nat), (10 : Nat), (13 : Nat), (21 : Nat)), ((0 : Nat), (10 : Nat), (17 : Nat), (13 : Nat)), ((0 : Nat), (10 : Nat), (21 : Nat), (15 : Nat))] ∈ k_Tb ∧ (yL_repeal.cls ≠ "java/lang/invoke/MethodHandle" ∧ yL_repeal.cls ≠ "java/lang/invoke/VarHandle") ∧ (parseMethodDescriptor yL_repeal.desc).map (fun d => d.parameters.length) = some 4 ∧ Cond.static yL_repeal ∈ k_Tb := ⟨wd_419, wd_0, wd_421, ⟨by decide +kernel, by decide +kernel⟩, by decide +kernel, wd_420⟩
theorem kl_L_17 : k_ClV RL 17 yX7_repeal prog_1_method_3_code 4 (Option.some ClassFile.FieldType.int) 2 := ⟨⟨wd_446, wd_1, wd_449, ⟨by decide +kernel, by decide +kernel⟩, by decide +kernel⟩, wd_447, wd_448⟩
theorem kl_X7_69 : k_ClV RX7 69 yX7_ruleAt prog_1_method_40_code 2 (Option.some (ClassFile.FieldType.object "PrecedentHall$Rule")) 1 := ⟨⟨wd_450, wd_1, wd_453, ⟨by decide +kernel, by decide +kernel⟩, by decide +kernel⟩, wd_452, ws_9⟩
theorem kl_X7_157 : k_ClS RX7 157 yX7_requireIndex prog_1_method_37_code 2 (Option.none : Option ClassFile.FieldType) 2 := ⟨⟨wd_454, wd_1, wd_456, ⟨by decide +kernel, by decide +kernel⟩, by decide +kernel⟩, wd_455⟩
theorem kl_X7_76 : k_ClS RX7 76 yJ9_max_7cf53 prog_21_method_65_code 2 (Option.some ClassFile.FieldType.int) 2 := ⟨⟨wd_470, wd_14, wd_378, ⟨by decide +kernel, by decide +kernel⟩, by decide +kernel⟩, wd_377⟩
theorem kl_X7_82 : k_ClV RX7 82 yX3_isRepealed prog_5_method_3_code 1 (Option.some ClassFile.FieldType.boolean) 0 := ⟨⟨wd_471, wd_12, wd_474, ⟨by decide +kernel, by decide +kernel⟩, by decide +kernel⟩, wd_472, wd_473⟩
theorem kl_X7_96 : k_ClV RX7 96 yX7_rulesInForce prog_1_method_43_code 4 (Option.some ClassFile.FieldType.int) 1 := ⟨⟨wd_476, wd_1, wd_479, ⟨by decide +kernel, by decide +kernel⟩, by decide +kernel⟩, wd_478, ws_10⟩
theorem kl_L_137 : Cond.methodLink RL 137 yL_isInForce ∈ k_Tb ∧ Cond.initialized yL_isInForce.cls ∈ k_Tb ∧ Cond.codeWith yL_isInForce method_5_code 5 (Option.some ClassFile.FieldType.int) [((0 : Nat), (17 : Nat), (20 : Nat), (21 : Nat)), ((0 : Nat), (17 : Nat), (24 : Nat), (13 : Nat))] ∈ k_Tb ∧ (yL_isInForce.cls ≠ "java/lang/invoke/MethodHandle" ∧ yL_isInForce.cls ≠ "java/lang/invoke/VarHandle") ∧ (parseMethodDescriptor yL_isInForce.desc).map (fun d => d.parameters.length) = some 4 ∧ Cond.static yL_isInForce ∈ k_Tb := ⟨wd_480, wd_0, wd_482, ⟨by decide +kernel, by decide +kernel⟩, by decide +kernel, wd_481⟩
theorem kl_L_23 : k_ClV RL 23 yX7_isInForce prog_1_method_4_code 4 (Option.some ClassFile.FieldType.boolean) 2 := ⟨⟨wd_483, wd_1, wd_486, ⟨by decide +kernel, by decide +kernel⟩, by decide +kernel⟩, wd_484, wd_485⟩
theorem kl_L_140 : Cond.methodLink RL 140 yL_applying ∈ k_Tb ∧ Cond.initialized yL_applying.cls ∈ k_Tb ∧ Cond.codeWith yL_applying method_6_code 4 (Option.some ClassFile.FieldType.int) [((0 : Nat), (9 : Nat), (12 : Nat), (21 : Nat)), ((0 : Nat), (9 : Nat), (15 : Nat), (31 : Nat))] ∈ k_Tb ∧ (yL_applying.cls ≠ "java/lang/invoke/MethodHandle" ∧ yL_applying.cls ≠ "java/lang/invoke/VarHandle") ∧ (parseMethodDescriptor yL_applying.desc).map (fun d => d.parameters.length) = some 3 ∧ Cond.static yL_applying ∈ k_Tb := ⟨wd_487, wd_0, wd_489, ⟨by decide +kernel, by decide +kernel⟩, by decide +kernel, wd_488⟩
theorem kl_L_27 : k_ClV RL 27 yX7_applying prog_1_method_5_code 3 (Option.some ClassFile.FieldType.int) 1 := ⟨⟨wd_491, wd_1, wd_494, ⟨by decide +kernel, by decide +kernel⟩, by decide +kernel⟩, wd_492, wd_493⟩
theorem kl_X7_104 : k_ClV RX7 104 yX7_reportAt prog_1_method_42_code 2 (Option.some (ClassFile.FieldType.object "PrecedentHall$Report")) 1 := ⟨⟨wd_495, wd_1, wd_498, ⟨by decide +kernel, by decide +kernel⟩, by decide +kernel⟩, wd_497, ws_11⟩
theorem kl_L_144 : Cond.methodLink RL 144 yL_conflicts ∈ k_Tb ∧ Cond.initialized yL_conflicts.cls ∈ k_Tb ∧ Cond.codeWith yL_conflicts method_7_code 4 (Option.some ClassFile.FieldType.int) [((0 : Nat), (9 : Nat), (12 : Nat), (13 : Nat))] ∈ k_Tb ∧ (yL_conflicts.cls ≠ "java/lang/invoke/MethodHandle" ∧ yL_conflicts.cls ≠ "java/lang/invoke/VarHandle") ∧ (parseMethodDescriptor yL_conflicts.desc).map (fun d => d.parameters.length) = some 3 ∧ Cond.static yL_conflicts ∈ k_Tb := ⟨wd_515, wd_0, wd_517, ⟨by decide +kernel, by decide +kernel⟩, by decide +kernel, wd_516⟩
theorem kl_L_33 : k_ClV RL 33 yX7_conflicts prog_1_method_6_code 5 (Option.some ClassFile.FieldType.int) 1 := ⟨⟨wd_518, wd_1, wd_521, ⟨by decide +kernel, by decide +kernel⟩, by decide +kernel⟩, wd_519, wd_520⟩
theorem kl_X7_121 : k_ClS RX7 121 yX7_areInConflict prog_1_method_44_code 3 (Option.some ClassFile.FieldType.boolean) 3 := ⟨⟨wd_522, wd_1, wd_524, ⟨by decide +kernel, by decide +kernel⟩, by decide +kernel⟩, wd_523⟩
theorem kl_L_147 : Cond.methodLink RL 147 yL_addUser ∈ k_Tb ∧ Cond.initialized yL_addUser.cls ∈ k_Tb ∧ Cond.codeWith yL_addUser method_8_code 4 (Option.some ClassFile.FieldType.int) [((0 : Nat), (9 : Nat), (12 : Nat), (13 : Nat)), ((0 : Nat), (9 : Nat), (15 : Nat), (15 : Nat))] ∈ k_Tb ∧ (yL_addUser.cls ≠ "java/lang/invoke/MethodHandle" ∧ yL_addUser.cls ≠ "java/lang/invoke/VarHandle") ∧ (parseMethodDescriptor yL_addUser.desc).map (fun d => d.parameters.length) = some 3 ∧ Cond.static yL_addUser ∈ k_Tb := ⟨wd_525, wd_0, wd_527, ⟨by decide +kernel, by decide +kernel⟩, by decide +kernel, wd_526⟩
theorem kl_L_36 : k_ClV RL 36 yX7_addUser prog_1_method_7_code 2 (Option.some ClassFile.FieldType.int) 1 := ⟨⟨wd_528, wd_1, wd_531, ⟨by decide +kernel, by decide +kernel⟩, by decide +kernel⟩, wd_529, wd_530⟩
theorem kl_X7_127 : k_ClI RX7 127 yX6_init prog_8_method_1_code 2 1 := ⟨⟨wd_534, wd_23, wd_536, ⟨by decide +kernel, by decide +kernel⟩, by decide +kernel⟩, rfl, wd_535⟩
theorem kl_L_150 : Cond.methodLink RL 150 yL_setWeight ∈ k_Tb ∧ Cond.initialized yL_setWeight.cls ∈ k_Tb ∧ Cond.codeWith yL_setWeight method_9_code 5 (Option.some ClassFile.FieldType.int) [((0 : Nat), (10 : Nat), (13 : Nat), (21 : Nat)), ((0 : Nat), (10 : Nat), (17 : Nat), (13 : Nat))] ∈ k_Tb ∧ (yL_setWeight.cls ≠ "java/lang/invoke/MethodHandle" ∧ yL_setWeight.cls ≠ "java/lang/invoke/VarHandle") ∧ (parseMethodDescriptor yL_setWeight.desc).map (fun d => d.parameters.length) = some 4 ∧ Cond.static yL_setWeight ∈ k_Tb := ⟨wd_543, wd_0, wd_545, ⟨by decide +kernel, by decide +kernel⟩, by decide +kernel, wd_544⟩
theorem kl_L_39 : k_ClV RL 39 yX7_setWeight prog_1_method_8_code 5 (Option.some ClassFile.FieldType.int) 2 := ⟨⟨wd_546, wd_1, wd_549, ⟨by decide +kernel, by decide +kernel⟩, by decide +kernel⟩, wd_547, wd_548⟩
theorem kl_X7_130 : k_ClV RX7 130 yX7_userAt prog_1_method_41_code 2 (Option.some (ClassFile.FieldType.object "PrecedentHall$User")) 1 := ⟨⟨wd_550, wd_1, wd_553, ⟨by decide +kernel, by decide +kernel⟩, by decide +kernel⟩, wd_552, ws_12⟩
theorem kl_L_153 : Cond.methodLink RL 153 yL_sanctions ∈ k_Tb ∧ Cond.initialized yL_sanctions.cls ∈ k_Tb ∧ Cond.codeWith yL_sanctions method_10_code 4 (Option.some ClassFile.FieldType.int) [((0 : Nat), (9 : Nat), (12 : Nat), (21 : Nat))] ∈ k_Tb ∧ (yL_sanctions.cls ≠ "java/lang/invoke/MethodHandle" ∧ yL_sanctions.cls ≠ "java/lang/invoke/VarHandle") ∧ (parseMethodDescriptor yL_sanctions.desc).map (fun d => d.parameters.length) = some 3 ∧ Cond.static yL_sanctions ∈ k_Tb := ⟨wd_554, wd_0, wd_556, ⟨by decide +kernel, by decide +kernel⟩, by decide +kernel, wd_555⟩
theorem kl_L_42 : k_ClV RL 42 yX7_sanctions prog_1_method_9_code 2 (Option.some ClassFile.FieldType.int) 1 := ⟨⟨wd_557, wd_1, wd_560, ⟨by decide +kernel, by decide +kernel⟩, by decide +kernel⟩, wd_558, wd_559⟩
theorem kl_X7_137 : k_ClV RX7 137 yX7_presentSanctions prog_1_method_54_code 5 (Option.some ClassFile.FieldType.int) 1 := ⟨⟨wd_561, wd_1, wd_564, ⟨by decide +kernel, by decide +kernel⟩, by decide +kernel⟩, wd_563, ws_13⟩
theorem kl_X7_149 : k_ClV RX7 149 yX4_includes prog_6_method_2_code 2 (Option.some ClassFile.FieldType.boolean) 1 := ⟨⟨wd_565, wd_28, wd_568, ⟨by decide +kernel, by decide +kernel⟩, by decide +kernel⟩, wd_566, wd_567⟩
theorem kl_L_156 : Cond.methodLink RL 156 yL_sanctionedUntil ∈ k_Tb ∧ Cond.initialized yL_sanctionedUntil.cls ∈ k_Tb ∧ Cond.codeWith yL_sanctionedUntil method_11_code 4 (Option.some ClassFile.FieldType.int) [((0 : Nat), (9 : Nat), (12 : Nat), (21 : Nat)), ((0 : Nat), (9 : Nat), (15 : Nat), (31 : Nat))] ∈ k_Tb ∧ (yL_sanctionedUntil.cls ≠ "java/lang/invoke/MethodHandle" ∧ yL_sanctionedUntil.cls ≠ "java/lang/invoke/VarHandle") ∧ (parseMethodDescriptor yL_sanctionedUntil.desc).map (fun d => d.parameters.length) = some 3 ∧ Cond.static yL_sanctionedUntil ∈ k_Tb := ⟨wd_569, wd_0, wd_571, ⟨by decide +kernel, by decide +kernel⟩, by decide +kernel, wd_570⟩
theorem kl_L_45 : k_ClV RL 45 yX7_sanctionedUntil prog_1_method_10_code 6 (Option.some ClassFile.FieldType.int) 1 := ⟨⟨wd_572, wd_1, wd_575, ⟨by decide +kernel, by decide +kernel⟩, by decide +kernel⟩, wd_573, wd_574⟩
theorem kl_L_159 : Cond.methodLink RL 159 yL_addBot ∈ k_Tb ∧ Cond.initialized yL_addBot.cls ∈ k_Tb ∧ Cond.codeWith yL_addBot method_12_code 5 (Option.some ClassFile.FieldType.int) [((0 : Nat), (10 : Nat), (13 : Nat), (13 : Nat)), ((0 : Nat), (10 : Nat), (17 : Nat), (15 : Nat))] ∈ k_Tb ∧ (yL_addBot.cls ≠ "java/lang/invoke/MethodHandle" ∧ yL_addBot.cls ≠ "java/lang/invoke/VarHandle") ∧ (parseMethodDescriptor yL_addBot.desc).map (fun d => d.parameters.length) = some 4 ∧ Cond.static yL_addBot ∈ k_Tb := ⟨wd_577, wd_0, wd_579, ⟨by decide +kernel, by decide +kernel⟩, by decide +kernel, wd_578⟩
theorem kl_L_48 : k_ClV RL 48 yX7_addBot prog_1_method_11_code 3 (Option.some ClassFile.FieldType.int) 2 := ⟨⟨wd_580, wd_1, wd_583, ⟨by decide +kernel, by decide +kernel⟩, by decide +kernel⟩, wd_581, wd_582⟩
theorem kl_X7_155 : k_ClI RX7 155 yX0_init prog_2_method_1_code 3 2 := ⟨⟨wd_585, wd_24, wd_587, ⟨by decide +kernel, by decide +kernel⟩, by decide +kernel⟩, rfl, wd_586⟩
theorem kl_L_162 : Cond.methodLink RL 162 yL_threshold ∈ k_Tb ∧ Cond.initialized yL_threshold.cls ∈ k_Tb ∧ Cond.codeWith yL_threshold method_13_code 4 (Option.some ClassFile.FieldType.int) [((0 : Nat), (9 : Nat), (12 : Nat), (21 : Nat))] ∈ k_Tb ∧ (yL_threshold.cls ≠ "java/lang/invoke/MethodHandle" ∧ yL_threshold.cls ≠ "java/lang/invoke/VarHandle") ∧ (parseMethodDescriptor yL_threshold.desc).map (fun d => d.parameters.length) = some 3 ∧ Cond.static yL_threshold ∈ k_Tb := ⟨wd_598, wd_0, wd_600, ⟨by decide +kernel, by decide +kernel⟩, by decide +kernel, wd_599⟩
theorem kl_L_51 : k_ClV RL 51 yX7_threshold prog_1_method_12_code 2 (Option.some ClassFile.FieldType.int) 1 := ⟨⟨wd_601, wd_1, wd_604, ⟨by decide +kernel, by decide +kernel⟩, by decide +kernel⟩, wd_602, wd_603⟩
theorem kl_L_165 : Cond.methodLink RL 165 yL_file ∈ k_Tb ∧ Cond.initialized yL_file.cls ∈ k_Tb ∧ Cond.codeWith yL_file method_14_code 7 (Option.some ClassFile.FieldType.int) [((0 : Nat), (14 : Nat), (17 : Nat), (21 : Nat)), ((0 : Nat), (14 : Nat), (21 : Nat), (13 : Nat)), ((0 : Nat), (14 : Nat), (25 : Nat), (15 : Nat))] ∈ k_Tb ∧ (yL_file.cls ≠ "java/lang/invoke/MethodHandle" ∧ yL_file.cls ≠ "java/lang/invoke/VarHandle") ∧ (parseMethodDescriptor yL_file.desc).map (fun d => d.parameters.length) = some 6 ∧ Cond.static yL_file ∈ k_Tb := ⟨wd_605, wd_0, wd_607, ⟨by decide +kernel, by decide +kernel⟩, by decide +kernel, wd_606⟩
theorem kl_L_54 : k_ClV RL 54 yX7_file prog_1_method_13_code 9 (Option.some ClassFile.FieldType.int) 4 := ⟨⟨wd_608, wd_1, wd_611, ⟨by decide +kernel, by decide +kernel⟩, by decide +kernel⟩, wd_609, wd_610⟩
theorem kl_X7_170 : k_ClI RX7 170 yX2_init prog_4_method_1_code 7 6 := ⟨⟨wd_614, wd_25, wd_616, ⟨by decide +kernel, by decide +kernel⟩, by decide +kernel⟩, rfl, wd_615⟩
theorem kl_X7_173 : k_ClV RX7 173 yX7_botFor prog_1_method_46_code 4 (Option.some (ClassFile.FieldType.object "PrecedentHall$Bot")) 1 := ⟨⟨wd_668, wd_1, wd_671, ⟨by decide +kernel, by decide +kernel⟩, by decide +kernel⟩, wd_670, ws_14⟩
theorem kl_X7_181 : k_ClV RX7 181 yX7_settle prog_1_method_50_code 5 (Option.some ClassFile.FieldType.char) 3 := ⟨⟨wd_672, wd_1, wd_675, ⟨by decide +kernel, by decide +kernel⟩, by decide +kernel⟩, wd_674, ws_15⟩
theorem kl_X7_256 : k_ClI RX7 256 yX1_init prog_3_method_1_code 5 4 := ⟨⟨wd_677, wd_27, wd_679, ⟨by decide +kernel, by decide +kernel⟩, by decide +kernel⟩, rfl, wd_678⟩
theorem kl_X7_363 : k_ClV RX7 363 yX7_sanctionAccused prog_1_method_51_code 4 (Option.none : Option ClassFile.FieldType) 1 := ⟨⟨wd_698, wd_1, wd_701, ⟨by decide +kernel, by decide +kernel⟩, by decide +kernel⟩, wd_700, ws_16⟩
theorem kl_X7_369 : k_ClI RX7 369 yX4_init prog_6_method_1_code 4 3 := ⟨⟨wd_703, wd_28, wd_705, ⟨by decide +kernel, by decide +kernel⟩, by decide +kernel⟩, rfl, wd_704⟩
theorem kl_L_169 : Cond.methodLink RL 169 yL_state ∈ k_Tb ∧ Cond.initialized yL_state.cls ∈ k_Tb ∧ Cond.codeWith yL_state method_15_code 4 (Option.some ClassFile.FieldType.int) [((0 : Nat), (9 : Nat), (12 : Nat), (21 : Nat))] ∈ k_Tb ∧ (yL_state.cls ≠ "java/lang/invoke/MethodHandle" ∧ yL_state.cls ≠ "java/lang/invoke/VarHandle") ∧ (parseMethodDescriptor yL_state.desc).map (fun d => d.parameters.length) = some 3 ∧ Cond.static yL_state ∈ k_Tb := ⟨wd_719, wd_0, wd_721, ⟨by decide +kernel, by decide +kernel⟩, by decide +kernel, wd_720⟩
theorem kl_L_58 : k_ClV RL 58 yX7_state prog_1_method_14_code 2 (Option.some ClassFile.FieldType.char) 1 := ⟨⟨wd_722, wd_1, wd_725, ⟨by decide +kernel, by decide +kernel⟩, by decide +kernel⟩, wd_723, wd_724⟩
theorem kl_L_172 : Cond.methodLink RL 172 yL_vote ∈ k_Tb ∧ Cond.initialized yL_vote.cls ∈ k_Tb ∧ Cond.codeWith yL_vote method_16_code 6 (Option.some ClassFile.FieldType.int) [((0 : Nat), (12 : Nat), (15 : Nat), (21 : Nat)), ((0 : Nat), (12 : Nat), (19 : Nat), (15 : Nat)), ((0 : Nat), (12 : Nat), (23 : Nat), (66 : Nat))] ∈ k_Tb ∧ (yL_vote.cls ≠ "java/lang/invoke/MethodHandle" ∧ yL_vote.cls ≠ "java/lang/invoke/VarHandle") ∧ (parseMethodDescriptor yL_vote.desc).map (fun d => d.parameters.length) = some 5 ∧ Cond.static yL_vote ∈ k_Tb := ⟨wd_726, wd_0, wd_728, ⟨by decide +kernel, by decide +kernel⟩, by decide +kernel, wd_727⟩
theorem kl_L_62 : k_ClV RL 62 yX7_vote prog_1_method_15_code 6 (Option.some ClassFile.FieldType.int) 3 := ⟨⟨wd_730, wd_1, wd_733, ⟨by decide +kernel, by decide +kernel⟩, by decide +kernel⟩, wd_731, wd_732⟩
theorem kl_X7_189 : k_ClS RX7 189 yX7_requireUndecided prog_1_method_38_code 1 (Option.none : Option ClassFile.FieldType) 1 := ⟨⟨wd_734, wd_1, wd_736, ⟨by decide +kernel, by decide +kernel⟩, by decide +kernel⟩, wd_735⟩
theorem kl_X7_206 : k_ClV RX7 206 yX2_enterVote prog_4_method_3_code 3 (Option.none : Option ClassFile.FieldType) 2 := ⟨⟨wd_755, wd_25, wd_758, ⟨by decide +kernel, by decide +kernel⟩, by decide +kernel⟩, wd_756, wd_757⟩
theorem kl_X7_209 : k_ClV RX7 209 yX2_sumFor prog_4_method_4_code 6 (Option.some ClassFile.FieldType.int) 0 := ⟨⟨wd_759, wd_25, wd_762, ⟨by decide +kernel, by decide +kernel⟩, by decide +kernel⟩, wd_760, wd_761⟩
theorem kl_X2_42 : k_ClS RX2 42 yJ9_max_7cf53 prog_21_method_65_code 2 (Option.some ClassFile.FieldType.int) 2 := ⟨⟨wd_763, wd_14, wd_378, ⟨by decide +kernel, by decide +kernel⟩, by decide +kernel⟩, wd_377⟩
theorem kl_X7_212 : k_ClV RX7 212 yX2_sumAgainst prog_4_method_5_code 6 (Option.some ClassFile.FieldType.int) 0 := ⟨⟨wd_764, wd_25, wd_767, ⟨by decide +kernel, by decide +kernel⟩, by decide +kernel⟩, wd_765, wd_766⟩
theorem kl_L_176 : Cond.methodLink RL 176 yL_weightFor ∈ k_Tb ∧ Cond.initialized yL_weightFor.cls ∈ k_Tb ∧ Cond.codeWith yL_weightFor method_17_code 4 (Option.some ClassFile.FieldType.int) [((0 : Nat), (9 : Nat), (12 : Nat), (21 : Nat))] ∈ k_Tb ∧ (yL_weightFor.cls ≠ "java/lang/invoke/MethodHandle" ∧ yL_weightFor.cls ≠ "java/lang/invoke/VarHandle") ∧ (parseMethodDescriptor yL_weightFor.desc).map (fun d => d.parameters.length) = some 3 ∧ Cond.static yL_weightFor ∈ k_Tb := ⟨wd_768, wd_0, wd_770, ⟨by decide +kernel, by decide +kernel⟩, by decide +kernel, wd_769⟩
theorem kl_L_68 : k_ClV RL 68 yX7_weightFor prog_1_method_16_code 2 (Option.some ClassFile.FieldType.int) 1 := ⟨⟨wd_771, wd_1, wd_774, ⟨by decide +kernel, by decide +kernel⟩, by decide +kernel⟩, wd_772, wd_773⟩
theorem kl_L_179 : Cond.methodLink RL 179 yL_weightAgainst ∈ k_Tb ∧ Cond.initialized yL_weightAgainst.cls ∈ k_Tb ∧ Cond.codeWith yL_weightAgainst method_18_code 4 (Option.some ClassFile.FieldType.int) [((0 : Nat), (9 : Nat), (12 : Nat), (21 : Nat))] ∈ k_Tb ∧ (yL_weightAgainst.cls ≠ "java/lang/invoke/MethodHandle" ∧ yL_weightAgainst.cls ≠ "java/lang/invoke/VarHandle") ∧ (parseMethodDescriptor yL_weightAgainst.desc).map (fun d => d.parameters.length) = some 3 ∧ Cond.static yL_weightAgainst ∈ k_Tb := ⟨wd_775, wd_0, wd_777, ⟨by decide +kernel, by decide +kernel⟩, by decide +kernel, wd_776⟩
theorem kl_L_71 : k_ClV RL 71 yX7_weightAgainst prog_1_method_17_code 2 (Option.some ClassFile.FieldType.int) 1 := ⟨⟨wd_778, wd_1, wd_781, ⟨by decide +kernel, by decide +kernel⟩, by decide +kernel⟩, wd_779, wd_780⟩
theorem kl_L_182 : Cond.methodLink RL 182 yL_setQuorum ∈ k_Tb ∧ Cond.initialized yL_setQuorum.cls ∈ k_Tb ∧ Cond.codeWith yL_setQuorum method_19_code 4 (Option.some ClassFile.FieldType.int) [((0 : Nat), (9 : Nat), (12 : Nat), (13 : Nat))] ∈ k_Tb ∧ (yL_setQuorum.cls ≠ "java/lang/invoke/MethodHandle" ∧ yL_setQuorum.cls ≠ "java/lang/invoke/VarHandle") ∧ (parseMethodDescriptor yL_setQuorum.desc).map (fun d => d.parameters.length) = some 3 ∧ Cond.static yL_setQuorum ∈ k_Tb := ⟨wd_782, wd_0, wd_784, ⟨by decide +kernel, by decide +kernel⟩, by decide +kernel, wd_783⟩
theorem kl_L_74 : k_ClV RL 74 yX7_setQuorum prog_1_method_18_code 3 (Option.some ClassFile.FieldType.int) 1 := ⟨⟨wd_785, wd_1, wd_788, ⟨by decide +kernel, by decide +kernel⟩, by decide +kernel⟩, wd_786, wd_787⟩
theorem kl_L_185 : Cond.methodLink RL 185 yL_precedent ∈ k_Tb ∧ Cond.initialized yL_precedent.cls ∈ k_Tb ∧ Cond.codeWith yL_precedent method_20_code 4 (Option.some ClassFile.FieldType.int) [((0 : Nat), (9 : Nat), (12 : Nat), (21 : Nat)), ((0 : Nat), (9 : Nat), (15 : Nat), (31 : Nat))] ∈ k_Tb ∧ (yL_precedent.cls ≠ "java/lang/invoke/MethodHandle" ∧ yL_precedent.cls ≠ "java/lang/invoke/VarHandle") ∧ (parseMethodDescriptor yL_precedent.desc).map (fun d => d.parameters.length) = some 3 ∧ Cond.static yL_precedent ∈ k_Tb := ⟨wd_789, wd_0, wd_791, ⟨by decide +kernel, by decide +kernel⟩, by decide +kernel, wd_790⟩
theorem kl_L_77 : k_ClV RL 77 yX7_precedent prog_1_method_19_code 3 (Option.some ClassFile.FieldType.int) 1 := ⟨⟨wd_792, wd_1, wd_795, ⟨by decide +kernel, by decide +kernel⟩, by decide +kernel⟩, wd_793, wd_794⟩
theorem kl_L_188 : Cond.methodLink RL 188 yL_decide ∈ k_Tb ∧ Cond.initialized yL_decide.cls ∈ k_Tb ∧ Cond.codeWith yL_decide method_21_code 4 (Option.some ClassFile.FieldType.int) [((0 : Nat), (9 : Nat), (12 : Nat), (21 : Nat)), ((0 : Nat), (9 : Nat), (15 : Nat), (15 : Nat)), ((0 : Nat), (9 : Nat), (18 : Nat), (66 : Nat))] ∈ k_Tb ∧ (yL_decide.cls ≠ "java/lang/invoke/MethodHandle" ∧ yL_decide.cls ≠ "java/lang/invoke/VarHandle") ∧ (parseMethodDescriptor yL_decide.desc).map (fun d => d.parameters.length) = some 3 ∧ Cond.static yL_decide ∈ k_Tb := ⟨wd_797, wd_0, wd_799, ⟨by decide +kernel, by decide +kernel⟩, by decide +kernel, wd_798⟩
theorem kl_L_80 : k_ClV RL 80 yX7_decide prog_1_method_20_code 7 (Option.some ClassFile.FieldType.char) 1 := ⟨⟨wd_800, wd_1, wd_803, ⟨by decide +kernel, by decide +kernel⟩, by decide +kernel⟩, wd_801, wd_802⟩
theorem kl_X7_223 : k_ClS RX7 223 yX7_closeAppeal prog_1_method_52_code 2 (Option.none : Option ClassFile.FieldType) 2 := ⟨⟨wd_805, wd_1, wd_807, ⟨by decide +kernel, by decide +kernel⟩, by decide +kernel⟩, wd_806⟩
theorem kl_X7_372 : k_ClV RX7 372 yX0_learn prog_2_method_2_code 2 (Option.none : Option ClassFile.FieldType) 1 := ⟨⟨wd_808, wd_24, wd_811, ⟨by decide +kernel, by decide +kernel⟩, by decide +kernel⟩, wd_809, wd_810⟩
theorem kl_X0_18 : k_ClS RX0 18 yJ9_min_7cf53 prog_21_method_69_code 2 (Option.some ClassFile.FieldType.int) 2 := ⟨⟨wd_812, wd_14, wd_156, ⟨by decide +kernel, by decide +kernel⟩, by decide +kernel⟩, wd_155⟩
theorem kl_X0_24 : k_ClS RX0 24 yJ9_max_7cf53 prog_21_method_65_code 2 (Option.some ClassFile.FieldType.int) 2 := ⟨⟨wd_813, wd_14, wd_378, ⟨by decide +kernel, by decide +kernel⟩, by decide +kernel⟩, wd_377⟩
theorem kl_L_191 : Cond.methodLink RL 191 yL_outcome ∈ k_Tb ∧ Cond.initialized yL_outcome.cls ∈ k_Tb ∧ Cond.codeWith yL_outcome method_22_code 4 (Option.some ClassFile.FieldType.int) [((0 : Nat), (9 : Nat), (12 : Nat), (21 : Nat)), ((0 : Nat), (9 : Nat), (15 : Nat), (31 : Nat))] ∈ k_Tb ∧ (yL_outcome.cls ≠ "java/lang/invoke/MethodHandle" ∧ yL_outcome.cls ≠ "java/lang/invoke/VarHandle") ∧ (parseMethodDescriptor yL_outcome.desc).map (fun d => d.parameters.length) = some 3 ∧ Cond.static yL_outcome ∈ k_Tb := ⟨wd_814, wd_0, wd_816, ⟨by decide +kernel, by decide +kernel⟩, by decide +kernel, wd_815⟩
theorem kl_L_83 : k_ClV RL 83 yX7_outcome prog_1_method_21_code 2 (Option.some ClassFile.FieldType.char) 1 := ⟨⟨wd_817, wd_1, wd_820, ⟨by decide +kernel, by decide +kernel⟩, by decide +kernel⟩, wd_818, wd_819⟩
theorem kl_X7_227 : k_ClS RX7 227 yX7_requireStanding prog_1_method_39_code 1 (Option.none : Option ClassFile.FieldType) 1 := ⟨⟨wd_821, wd_1, wd_823, ⟨by decide +kernel, by decide +kernel⟩, by decide +kernel⟩, wd_822⟩
theorem kl_L_194 : Cond.methodLink RL 194 yL_outcomeAnew ∈ k_Tb ∧ Cond.initialized yL_outcomeAnew.cls ∈ k_Tb ∧ Cond.codeWith yL_outcomeAnew method_23_code 4 (Option.some ClassFile.FieldType.int) [((0 : Nat), (9 : Nat), (12 : Nat), (21 : Nat)), ((0 : Nat), (9 : Nat), (15 : Nat), (31 : Nat))] ∈ k_Tb ∧ (yL_outcomeAnew.cls ≠ "java/lang/invoke/MethodHandle" ∧ yL_outcomeAnew.cls ≠ "java/lang/invoke/VarHandle") ∧ (parseMethodDescriptor yL_outcomeAnew.desc).map (fun d => d.parameters.length) = some 3 ∧ Cond.static yL_outcomeAnew ∈ k_Tb := ⟨wd_825, wd_0, wd_827, ⟨by decide +kernel, by decide +kernel⟩, by decide +kernel, wd_826⟩
theorem kl_L_86 : k_ClV RL 86 yX7_outcomeAnew prog_1_method_22_code 2 (Option.some ClassFile.FieldType.char) 1 := ⟨⟨wd_828, wd_1, wd_831, ⟨by decide +kernel, by decide +kernel⟩, by decide +kernel⟩, wd_829, wd_830⟩
theorem kl_L_197 : Cond.methodLink RL 197 yL_isByBot ∈ k_Tb ∧ Cond.initialized yL_isByBot.cls ∈ k_Tb ∧ Cond.codeWith yL_isByBot method_24_code 4 (Option.some ClassFile.FieldType.int) [((0 : Nat), (16 : Nat), (19 : Nat), (21 : Nat)), ((0 : Nat), (16 : Nat), (22 : Nat), (31 : Nat))] ∈ k_Tb ∧ (yL_isByBot.cls ≠ "java/lang/invoke/MethodHandle" ∧ yL_isByBot.cls ≠ "java/lang/invoke/VarHandle") ∧ (parseMethodDescriptor yL_isByBot.desc).map (fun d => d.parameters.length) = some 3 ∧ Cond.static yL_isByBot ∈ k_Tb := ⟨wd_832, wd_0, wd_834, ⟨by decide +kernel, by decide +kernel⟩, by decide +kernel, wd_833⟩
theorem kl_L_89 : k_ClV RL 89 yX7_isByBot prog_1_method_23_code 3 (Option.some ClassFile.FieldType.boolean) 1 := ⟨⟨wd_835, wd_1, wd_838, ⟨by decide +kernel, by decide +kernel⟩, by decide +kernel⟩, wd_836, wd_837⟩
theorem kl_X7_237 : k_ClV RX7 237 yX2_standsByBot prog_4_method_7_code 1 (Option.some ClassFile.FieldType.boolean) 0 := ⟨⟨wd_839, wd_25, wd_842, ⟨by decide +kernel, by decide +kernel⟩, by decide +kernel⟩, wd_840, wd_841⟩
theorem kl_L_200 : Cond.methodLink RL 200 yL_appeal ∈ k_Tb ∧ Cond.initialized yL_appeal.cls ∈ k_Tb ∧ Cond.codeWith yL_appeal method_25_code 4 (Option.some ClassFile.FieldType.int) [((0 : Nat), (9 : Nat), (12 : Nat), (21 : Nat)), ((0 : Nat), (9 : Nat), (15 : Nat), (15 : Nat)), ((0 : Nat), (9 : Nat), (18 : Nat), (66 : Nat))] ∈ k_Tb ∧ (yL_appeal.cls ≠ "java/lang/invoke/MethodHandle" ∧ yL_appeal.cls ≠ "java/lang/invoke/VarHandle") ∧ (parseMethodDescriptor yL_appeal.desc).map (fun d => d.parameters.length) = some 3 ∧ Cond.static yL_appeal ∈ k_Tb := ⟨wd_843, wd_0, wd_845, ⟨by decide +kernel, by decide +kernel⟩, by decide +kernel, wd_844⟩
theorem kl_L_93 : k_ClV RL 93 yX7_appeal prog_1_method_24_code 3 (Option.some ClassFile.FieldType.int) 1 := ⟨⟨wd_846, wd_1, wd_849, ⟨by decide +kernel, by decide +kernel⟩, by decide +kernel⟩, wd_847, wd_848⟩
theorem kl_X7_263 : k_ClV RX7 263 yX4_cutAt prog_6_method_3_code 2 (Option.none : Option ClassFile.FieldType) 1 := ⟨⟨wd_852, wd_28, wd_855, ⟨by decide +kernel, by decide +kernel⟩, by decide +kernel⟩, wd_853, wd_854⟩
theorem kl_X7_266 : k_ClV RX7 266 yX7_reportsInState prog_1_method_55_code 4 (Option.some ClassFile.FieldType.int) 1 := ⟨⟨wd_856, wd_1, wd_859, ⟨by decide +kernel, by decide +kernel⟩, by decide +kernel⟩, wd_858, ws_17⟩
theorem kl_L_203 : Cond.methodLink RL 203 yL_wasReversed ∈ k_Tb ∧ Cond.initialized yL_wasReversed.cls ∈ k_Tb ∧ Cond.codeWith yL_wasReversed method_26_code 4 (Option.some ClassFile.FieldType.int) [((0 : Nat), (16 : Nat), (19 : Nat), (21 : Nat))] ∈ k_Tb ∧ (yL_wasReversed.cls ≠ "java/lang/invoke/MethodHandle" ∧ yL_wasReversed.cls ≠ "java/lang/invoke/VarHandle") ∧ (parseMethodDescriptor yL_wasReversed.desc).map (fun d => d.parameters.length) = some 3 ∧ Cond.static yL_wasReversed ∈ k_Tb := ⟨wd_860, wd_0, wd_862, ⟨by decide +kernel, by decide +kernel⟩, by decide +kernel, wd_861⟩
theorem kl_L_96 : k_ClV RL 96 yX7_wasReversed prog_1_method_25_code 2 (Option.some ClassFile.FieldType.boolean) 1 := ⟨⟨wd_863, wd_1, wd_866, ⟨by decide +kernel, by decide +kernel⟩, by decide +kernel⟩, wd_864, wd_865⟩
theorem kl_L_210 : Cond.methodLink RL 210 yL_pass ∈ k_Tb ∧ Cond.initialized yL_pass.cls ∈ k_Tb ∧ Cond.codeWith yL_pass method_27_code 4 (Option.some ClassFile.FieldType.int) [((0 : Nat), (9 : Nat), (12 : Nat), (13 : Nat)), ((0 : Nat), (9 : Nat), (15 : Nat), (15 : Nat))] ∈ k_Tb ∧ (yL_pass.cls ≠ "java/lang/invoke/MethodHandle" ∧ yL_pass.cls ≠ "java/lang/invoke/VarHandle") ∧ (parseMethodDescriptor yL_pass.desc).map (fun d => d.parameters.length) = some 3 ∧ Cond.static yL_pass ∈ k_Tb := ⟨wd_867, wd_0, wd_869, ⟨by decide +kernel, by decide +kernel⟩, by decide +kernel, wd_868⟩
theorem kl_L_99 : k_ClV RL 99 yX7_pass prog_1_method_27_code 6 (Option.some ClassFile.FieldType.int) 1 := ⟨⟨wd_870, wd_1, wd_873, ⟨by decide +kernel, by decide +kernel⟩, by decide +kernel⟩, wd_871, wd_872⟩
theorem kl_L_217 : Cond.methodLink RL 217 yL_likeness ∈ k_Tb ∧ Cond.initialized yL_likeness.cls ∈ k_Tb ∧ Cond.codeWith yL_likeness method_28_code 5 (Option.some ClassFile.FieldType.int) [((0 : Nat), (10 : Nat), (13 : Nat), (21 : Nat))] ∈ k_Tb ∧ (yL_likeness.cls ≠ "java/lang/invoke/MethodHandle" ∧ yL_likeness.cls ≠ "java/lang/invoke/VarHandle") ∧ (parseMethodDescriptor yL_likeness.desc).map (fun d => d.parameters.length) = some 4 ∧ Cond.static yL_likeness ∈ k_Tb := ⟨wd_875, wd_0, wd_877, ⟨by decide +kernel, by decide +kernel⟩, by decide +kernel, wd_876⟩
theorem kl_L_102 : k_ClV RL 102 yX7_likeness prog_1_method_29_code 3 (Option.some ClassFile.FieldType.int) 2 := ⟨⟨wd_878, wd_1, wd_881, ⟨by decide +kernel, by decide +kernel⟩, by decide +kernel⟩, wd_879, wd_880⟩
theorem kl_L_220 : Cond.methodLink RL 220 yL_count ∈ k_Tb ∧ Cond.initialized yL_count.cls ∈ k_Tb ∧ Cond.codeWith yL_count method_29_code 4 (Option.some ClassFile.FieldType.int) [((0 : Nat), (9 : Nat), (12 : Nat), (13 : Nat))] ∈ k_Tb ∧ (yL_count.cls ≠ "java/lang/invoke/MethodHandle" ∧ yL_count.cls ≠ "java/lang/invoke/VarHandle") ∧ (parseMethodDescriptor yL_count.desc).map (fun d => d.parameters.length) = some 3 ∧ Cond.static yL_count ∈ k_Tb := ⟨wd_882, wd_0, wd_884, ⟨by decide +kernel, by decide +kernel⟩, by decide +kernel, wd_883⟩
theorem kl_L_105 : k_ClV RL 105 yX7_count prog_1_method_30_code 2 (Option.some ClassFile.FieldType.int) 1 := ⟨⟨wd_885, wd_1, wd_888, ⟨by decide +kernel, by decide +kernel⟩, by decide +kernel⟩, wd_886, wd_887⟩
theorem kl_X7_282 : k_ClV RX7 282 yX7_guiltyReports prog_1_method_56_code 3 (Option.some ClassFile.FieldType.int) 0 := ⟨⟨wd_889, wd_1, wd_892, ⟨by decide +kernel, by decide +kernel⟩, by decide +kernel⟩, wd_891, ws_18⟩
theorem kl_X7_285 : k_ClV RX7 285 yX7_reportsByBots prog_1_method_57_code 3 (Option.some ClassFile.FieldType.int) 0 := ⟨⟨wd_893, wd_1, wd_896, ⟨by decide +kernel, by decide +kernel⟩, by decide +kernel⟩, wd_895, ws_19⟩
theorem kl_X7_288 : k_ClV RX7 288 yX7_reversedReports prog_1_method_58_code 3 (Option.some ClassFile.FieldType.int) 0 := ⟨⟨wd_897, wd_1, wd_900, ⟨by decide +kernel, by decide +kernel⟩, by decide +kernel⟩, wd_899, ws_20⟩
theorem kl_L_224 : Cond.methodLink RL 224 yL_meanEvidence ∈ k_Tb ∧ Cond.initialized yL_meanEvidence.cls ∈ k_Tb ∧ Cond.codeWith yL_meanEvidence method_30_code 3 (Option.some ClassFile.FieldType.int) [((0 : Nat), (7 : Nat), (10 : Nat), (113 : Nat))] ∈ k_Tb ∧ (yL_meanEvidence.cls ≠ "java/lang/invoke/MethodHandle" ∧ yL_meanEvidence.cls ≠ "java/lang/invoke/VarHandle") ∧ (parseMethodDescriptor yL_meanEvidence.desc).map (fun d => d.parameters.length) = some 2 ∧ Cond.static yL_meanEvidence ∈ k_Tb := ⟨wd_902, wd_0, wd_904, ⟨by decide +kernel, by decide +kernel⟩, by decide +kernel, wd_903⟩
theorem kl_L_109 : k_ClV RL 109 yX7_meanEvidence prog_1_method_31_code 4 (Option.some ClassFile.FieldType.double) 0 := ⟨⟨wd_919, wd_1, wd_922, ⟨by decide +kernel, by decide +kernel⟩, by decide +kernel⟩, wd_920, wd_921⟩
theorem kl_L_228 : Cond.methodLink RL 228 yL_reversedShare ∈ k_Tb ∧ Cond.initialized yL_reversedShare.cls ∈ k_Tb ∧ Cond.codeWith yL_reversedShare method_31_code 3 (Option.some ClassFile.FieldType.int) [((0 : Nat), (8 : Nat), (11 : Nat), (113 : Nat))] ∈ k_Tb ∧ (yL_reversedShare.cls ≠ "java/lang/invoke/MethodHandle" ∧ yL_reversedShare.cls ≠ "java/lang/invoke/VarHandle") ∧ (parseMethodDescriptor yL_reversedShare.desc).map (fun d => d.parameters.length) = some 2 ∧ Cond.static yL_reversedShare ∈ k_Tb := ⟨wd_926, wd_0, wd_928, ⟨by decide +kernel, by decide +kernel⟩, by decide +kernel, wd_927⟩
theorem kl_L_115 : k_ClV RL 115 yX7_reversedShare prog_1_method_32_code 3 (Option.some ClassFile.FieldType.float) 0 := ⟨⟨wd_929, wd_1, wd_932, ⟨by decide +kernel, by decide +kernel⟩, by decide +kernel⟩, wd_930, wd_931⟩
theorem kl_X7_301 : k_ClV RX7 301 yX2_hasNewDecision prog_4_method_6_code 1 (Option.some ClassFile.FieldType.boolean) 0 := ⟨⟨wd_933, wd_25, wd_936, ⟨by decide +kernel, by decide +kernel⟩, by decide +kernel⟩, wd_934, wd_935⟩
theorem kl_L_122 : k_ClI RL 122 yX8_init prog_10_method_1_code 1 0 := ⟨⟨wd_940, wd_6, wd_942, ⟨by decide +kernel, by decide +kernel⟩, by decide +kernel⟩, rfl, wd_941⟩
theorem kl_L_129 : k_ClV RL 129 yX8_thrown prog_10_method_2_code 1 (Option.some ClassFile.FieldType.int) 0 := ⟨⟨wd_1047, wd_6, wd_1050, ⟨by decide +kernel, by decide +kernel⟩, by decide +kernel⟩, wd_1048, wd_1049⟩
theorem kl_L_128 : k_ClV RL 128 yX8_addRule prog_10_method_9_code 6 (Option.some ClassFile.FieldType.int) 5 := ⟨⟨wd_1051, wd_6, wd_1054, ⟨by decide +kernel, by decide +kernel⟩, by decide +kernel⟩, wd_1052, wd_1053⟩
theorem kl_X8_90 : k_ClS RX8 90 yX8_isBetween prog_10_method_5_code 3 (Option.some ClassFile.FieldType.boolean) 3 := ⟨⟨wd_1055, wd_6, wd_1057, ⟨by decide +kernel, by decide +kernel⟩, by decide +kernel⟩, wd_1056⟩
theorem kl_X8_103 : k_ClV RX8 103 yX8_fails prog_10_method_3_code 2 (Option.some ClassFile.FieldType.int) 1 := ⟨⟨wd_1058, wd_6, wd_1061, ⟨by decide +kernel, by decide +kernel⟩, by decide +kernel⟩, wd_1060, ws_21⟩
theorem kl_L_136 : k_ClV RL 136 yX8_repeal prog_10_method_11_code 5 (Option.some ClassFile.FieldType.int) 2 := ⟨⟨wd_1063, wd_6, wd_1066, ⟨by decide +kernel, by decide +kernel⟩, by decide +kernel⟩, wd_1064, wd_1065⟩
theorem kl_X8_110 : k_ClV RX8 110 yX8_isRule prog_10_method_6_code 2 (Option.some ClassFile.FieldType.boolean) 1 := ⟨⟨wd_1067, wd_6, wd_1070, ⟨by decide +kernel, by decide +kernel⟩, by decide +kernel⟩, wd_1069, ws_22⟩
theorem kl_X8_114 : k_ClS RX8 114 yJ9_max_7cf53 prog_21_method_65_code 2 (Option.some ClassFile.FieldType.int) 2 := ⟨⟨wd_1071, wd_14, wd_378, ⟨by decide +kernel, by decide +kernel⟩, by decide +kernel⟩, wd_377⟩
theorem kl_X8_120 : k_ClV RX8 120 yX8_inForce prog_10_method_10_code 3 (Option.some ClassFile.FieldType.boolean) 2 := ⟨⟨wd_1072, wd_6, wd_1075, ⟨by decide +kernel, by decide +kernel⟩, by decide +kernel⟩, wd_1074, ws_23⟩
theorem kl_L_139 : k_ClV RL 139 yX8_isInForce prog_10_method_12_code 3 (Option.some ClassFile.FieldType.boolean) 2 := ⟨⟨wd_1076, wd_6, wd_1079, ⟨by decide +kernel, by decide +kernel⟩, by decide +kernel⟩, wd_1077, wd_1078⟩
theorem kl_L_143 : k_ClV RL 143 yX8_applying prog_10_method_14_code 2 (Option.some ClassFile.FieldType.int) 1 := ⟨⟨wd_1080, wd_6, wd_1083, ⟨by decide +kernel, by decide +kernel⟩, by decide +kernel⟩, wd_1081, wd_1082⟩
theorem kl_X8_124 : k_ClV RX8 124 yX8_isReport prog_10_method_8_code 2 (Option.some ClassFile.FieldType.boolean) 1 := ⟨⟨wd_1084, wd_6, wd_1087, ⟨by decide +kernel, by decide +kernel⟩, by decide +kernel⟩, wd_1086, ws_24⟩
theorem kl_X8_127 : k_ClV RX8 127 yX8_rule prog_10_method_13_code 4 (Option.some ClassFile.FieldType.int) 1 := ⟨⟨wd_1088, wd_6, wd_1091, ⟨by decide +kernel, by decide +kernel⟩, by decide +kernel⟩, wd_1090, ws_25⟩
theorem kl_L_146 : k_ClV RL 146 yX8_conflicts prog_10_method_15_code 5 (Option.some ClassFile.FieldType.int) 1 := ⟨⟨wd_1092, wd_6, wd_1095, ⟨by decide +kernel, by decide +kernel⟩, by decide +kernel⟩, wd_1093, wd_1094⟩
theorem kl_L_149 : k_ClV RL 149 yX8_addUser prog_10_method_16_code 2 (Option.some ClassFile.FieldType.int) 1 := ⟨⟨wd_1096, wd_6, wd_1099, ⟨by decide +kernel, by decide +kernel⟩, by decide +kernel⟩, wd_1097, wd_1098⟩
theorem kl_L_152 : k_ClV RL 152 yX8_setWeight prog_10_method_17_code 4 (Option.some ClassFile.FieldType.int) 2 := ⟨⟨wd_1100, wd_6, wd_1103, ⟨by decide +kernel, by decide +kernel⟩, by decide +kernel⟩, wd_1101, wd_1102⟩
theorem kl_X8_130 : k_ClV RX8 130 yX8_isUser prog_10_method_7_code 2 (Option.some ClassFile.FieldType.boolean) 1 := ⟨⟨wd_1104, wd_6, wd_1107, ⟨by decide +kernel, by decide +kernel⟩, by decide +kernel⟩, wd_1106, ws_26⟩
theorem kl_L_155 : k_ClV RL 155 yX8_sanctions prog_10_method_21_code 2 (Option.some ClassFile.FieldType.int) 1 := ⟨⟨wd_1108, wd_6, wd_1111, ⟨by decide +kernel, by decide +kernel⟩, by decide +kernel⟩, wd_1109, wd_1110⟩
theorem kl_X8_140 : k_ClV RX8 140 yX8_sanctionsOf prog_10_method_20_code 4 (Option.some ClassFile.FieldType.int) 1 := ⟨⟨wd_1112, wd_6, wd_1115, ⟨by decide +kernel, by decide +kernel⟩, by decide +kernel⟩, wd_1114, ws_27⟩
theorem kl_X8_137 : k_ClV RX8 137 yX8_includes prog_10_method_19_code 3 (Option.some ClassFile.FieldType.boolean) 2 := ⟨⟨wd_1116, wd_6, wd_1119, ⟨by decide +kernel, by decide +kernel⟩, by decide +kernel⟩, wd_1118, ws_28⟩
theorem kl_X8_133 : k_ClV RX8 133 yX8_stands prog_10_method_18_code 3 (Option.some ClassFile.FieldType.boolean) 2 := ⟨⟨wd_1120, wd_6, wd_1123, ⟨by decide +kernel, by decide +kernel⟩, by decide +kernel⟩, wd_1122, ws_29⟩
theorem kl_L_158 : k_ClV RL 158 yX8_sanctionedUntil prog_10_method_22_code 4 (Option.some ClassFile.FieldType.int) 1 := ⟨⟨wd_1124, wd_6, wd_1127, ⟨by decide +kernel, by decide +kernel⟩, by decide +kernel⟩, wd_1125, wd_1126⟩
theorem kl_L_161 : k_ClV RL 161 yX8_addBot prog_10_method_23_code 3 (Option.some ClassFile.FieldType.int) 2 := ⟨⟨wd_1128, wd_6, wd_1131, ⟨by decide +kernel, by decide +kernel⟩, by decide +kernel⟩, wd_1129, wd_1130⟩
theorem kl_L_164 : k_ClV RL 164 yX8_threshold prog_10_method_24_code 2 (Option.some ClassFile.FieldType.int) 1 := ⟨⟨wd_1132, wd_6, wd_1135, ⟨by decide +kernel, by decide +kernel⟩, by decide +kernel⟩, wd_1133, wd_1134⟩
theorem kl_L_168 : k_ClV RL 168 yX8_file prog_10_method_29_code 7 (Option.some ClassFile.FieldType.int) 4 := ⟨⟨wd_1136, wd_6, wd_1139, ⟨by decide +kernel, by decide +kernel⟩, by decide +kernel⟩, wd_1137, wd_1138⟩
theorem kl_X8_162 : k_ClV RX8 162 yX8_decides prog_10_method_28_code 5 (Option.none : Option ClassFile.FieldType) 4 := ⟨⟨wd_1140, wd_6, wd_1143, ⟨by decide +kernel, by decide +kernel⟩, by decide +kernel⟩, wd_1142, ws_30⟩
theorem kl_X8_155 : k_ClV RX8 155 yX8_outcomeBy prog_10_method_27_code 8 (Option.some ClassFile.FieldType.char) 3 := ⟨⟨wd_1144, wd_6, wd_1147, ⟨by decide +kernel, by decide +kernel⟩, by decide +kernel⟩, wd_1146, ws_31⟩
theorem kl_X8_152 : k_ClV RX8 152 yX8_precedentOf prog_10_method_26_code 4 (Option.some ClassFile.FieldType.int) 1 := ⟨⟨wd_1148, wd_6, wd_1151, ⟨by decide +kernel, by decide +kernel⟩, by decide +kernel⟩, wd_1150, ws_32⟩
theorem kl_X8_149 : k_ClV RX8 149 yX8_like prog_10_method_25_code 3 (Option.some ClassFile.FieldType.int) 2 := ⟨⟨wd_1152, wd_6, wd_1155, ⟨by decide +kernel, by decide +kernel⟩, by decide +kernel⟩, wd_1154, ws_33⟩
theorem kl_X8_146 : k_ClS RX8 146 yJ6_bitCount_0f7a4 prog_19_method_49_code 1 (Option.some ClassFile.FieldType.int) 1 := ⟨⟨wd_1156, wd_26, wd_210, ⟨by decide +kernel, by decide +kernel⟩, by decide +kernel⟩, wd_209⟩
theorem kl_L_171 : k_ClV RL 171 yX8_state prog_10_method_30_code 2 (Option.some ClassFile.FieldType.char) 1 := ⟨⟨wd_1157, wd_6, wd_1160, ⟨by decide +kernel, by decide +kernel⟩, by decide +kernel⟩, wd_1158, wd_1159⟩
theorem kl_L_175 : k_ClV RL 175 yX8_vote prog_10_method_32_code 4 (Option.some ClassFile.FieldType.int) 3 := ⟨⟨wd_1161, wd_6, wd_1164, ⟨by decide +kernel, by decide +kernel⟩, by decide +kernel⟩, wd_1162, wd_1163⟩
theorem kl_X8_166 : k_ClV RX8 166 yX8_weight prog_10_method_31_code 5 (Option.some ClassFile.FieldType.int) 2 := ⟨⟨wd_1165, wd_6, wd_1168, ⟨by decide +kernel, by decide +kernel⟩, by decide +kernel⟩, wd_1167, ws_34⟩
theorem kl_L_178 : k_ClV RL 178 yX8_weightFor prog_10_method_34_code 2 (Option.some ClassFile.FieldType.int) 1 := ⟨⟨wd_1169, wd_6, wd_1172, ⟨by decide +kernel, by decide +kernel⟩, by decide +kernel⟩, wd_1170, wd_1171⟩
theorem kl_X8_169 : k_ClV RX8 169 yX8_isNone prog_10_method_33_code 2 (Option.some ClassFile.FieldType.boolean) 1 := ⟨⟨wd_1173, wd_6, wd_1176, ⟨by decide +kernel, by decide +kernel⟩, by decide +kernel⟩, wd_1175, ws_35⟩
theorem kl_L_181 : k_ClV RL 181 yX8_weightAgainst prog_10_method_35_code 2 (Option.some ClassFile.FieldType.int) 1 := ⟨⟨wd_1177, wd_6, wd_1180, ⟨by decide +kernel, by decide +kernel⟩, by decide +kernel⟩, wd_1178, wd_1179⟩
theorem kl_L_184 : k_ClV RL 184 yX8_setQuorum prog_10_method_36_code 3 (Option.some ClassFile.FieldType.int) 1 := ⟨⟨wd_1181, wd_6, wd_1184, ⟨by decide +kernel, by decide +kernel⟩, by decide +kernel⟩, wd_1182, wd_1183⟩
theorem kl_L_187 : k_ClV RL 187 yX8_precedent prog_10_method_37_code 2 (Option.some ClassFile.FieldType.int) 1 := ⟨⟨wd_1185, wd_6, wd_1188, ⟨by decide +kernel, by decide +kernel⟩, by decide +kernel⟩, wd_1186, wd_1187⟩
theorem kl_L_190 : k_ClV RL 190 yX8_decide prog_10_method_38_code 5 (Option.some ClassFile.FieldType.char) 1 := ⟨⟨wd_1189, wd_6, wd_1192, ⟨by decide +kernel, by decide +kernel⟩, by decide +kernel⟩, wd_1190, wd_1191⟩
theorem kl_X8_178 : k_ClS RX8 178 yJ9_min_7cf53 prog_21_method_69_code 2 (Option.some ClassFile.FieldType.int) 2 := ⟨⟨wd_1193, wd_14, wd_156, ⟨by decide +kernel, by decide +kernel⟩, by decide +kernel⟩, wd_155⟩
theorem kl_L_193 : k_ClV RL 193 yX8_outcome prog_10_method_40_code 2 (Option.some ClassFile.FieldType.char) 1 := ⟨⟨wd_1194, wd_6, wd_1197, ⟨by decide +kernel, by decide +kernel⟩, by decide +kernel⟩, wd_1195, wd_1196⟩
theorem kl_X8_181 : k_ClV RX8 181 yX8_isOpen prog_10_method_39_code 2 (Option.some ClassFile.FieldType.boolean) 1 := ⟨⟨wd_1198, wd_6, wd_1201, ⟨by decide +kernel, by decide +kernel⟩, by decide +kernel⟩, wd_1200, ws_36⟩
theorem kl_L_196 : k_ClV RL 196 yX8_outcomeAnew prog_10_method_41_code 2 (Option.some ClassFile.FieldType.char) 1 := ⟨⟨wd_1202, wd_6, wd_1205, ⟨by decide +kernel, by decide +kernel⟩, by decide +kernel⟩, wd_1203, wd_1204⟩
theorem kl_X8_184 : k_ClV RX8 184 yX8_outcome prog_10_method_40_code 2 (Option.some ClassFile.FieldType.char) 1 := ⟨⟨wd_1206, wd_6, wd_1197, ⟨by decide +kernel, by decide +kernel⟩, by decide +kernel⟩, wd_1195, wd_1196⟩
theorem kl_L_199 : k_ClV RL 199 yX8_isByBot prog_10_method_42_code 2 (Option.some ClassFile.FieldType.boolean) 1 := ⟨⟨wd_1207, wd_6, wd_1210, ⟨by decide +kernel, by decide +kernel⟩, by decide +kernel⟩, wd_1208, wd_1209⟩
theorem kl_L_202 : k_ClV RL 202 yX8_appeal prog_10_method_43_code 4 (Option.some ClassFile.FieldType.int) 1 := ⟨⟨wd_1211, wd_6, wd_1214, ⟨by decide +kernel, by decide +kernel⟩, by decide +kernel⟩, wd_1212, wd_1213⟩
theorem kl_L_205 : k_ClV RL 205 yX8_wasReversed prog_10_method_45_code 2 (Option.some ClassFile.FieldType.boolean) 1 := ⟨⟨wd_1215, wd_6, wd_1218, ⟨by decide +kernel, by decide +kernel⟩, by decide +kernel⟩, wd_1216, wd_1217⟩
theorem kl_X8_188 : k_ClV RX8 188 yX8_isReversed prog_10_method_44_code 2 (Option.some ClassFile.FieldType.boolean) 1 := ⟨⟨wd_1219, wd_6, wd_1222, ⟨by decide +kernel, by decide +kernel⟩, by decide +kernel⟩, wd_1221, ws_37⟩
theorem kl_L_209 : k_ClV RL 209 yX8_today prog_10_method_46_code 1 (Option.some ClassFile.FieldType.int) 0 := ⟨⟨wd_1223, wd_6, wd_1226, ⟨by decide +kernel, by decide +kernel⟩, by decide +kernel⟩, wd_1224, wd_1225⟩
theorem kl_L_212 : k_ClV RL 212 yX8_pass prog_10_method_47_code 5 (Option.some ClassFile.FieldType.int) 1 := ⟨⟨wd_1227, wd_6, wd_1230, ⟨by decide +kernel, by decide +kernel⟩, by decide +kernel⟩, wd_1228, wd_1229⟩
theorem kl_L_216 : k_ClV RL 216 yX8_decisions prog_10_method_48_code 1 (Option.some ClassFile.FieldType.int) 0 := ⟨⟨wd_1231, wd_6, wd_1234, ⟨by decide +kernel, by decide +kernel⟩, by decide +kernel⟩, wd_1232, wd_1233⟩
theorem kl_L_219 : k_ClV RL 219 yX8_likeness prog_10_method_49_code 3 (Option.some ClassFile.FieldType.int) 2 := ⟨⟨wd_1235, wd_6, wd_1238, ⟨by decide +kernel, by decide +kernel⟩, by decide +kernel⟩, wd_1236, wd_1237⟩
theorem kl_L_223 : k_ClV RL 223 yX8_count prog_10_method_51_code 4 (Option.some ClassFile.FieldType.int) 1 := ⟨⟨wd_1239, wd_6, wd_1242, ⟨by decide +kernel, by decide +kernel⟩, by decide +kernel⟩, wd_1240, wd_1241⟩
theorem kl_X8_195 : k_ClV RX8 195 yX8_isOf prog_10_method_50_code 3 (Option.some ClassFile.FieldType.boolean) 2 := ⟨⟨wd_1243, wd_6, wd_1246, ⟨by decide +kernel, by decide +kernel⟩, by decide +kernel⟩, wd_1245, ws_38⟩
theorem kl_L_227 : k_ClV RL 227 yX8_meanEvidence prog_10_method_52_code 4 (Option.some ClassFile.FieldType.double) 0 := ⟨⟨wd_1247, wd_6, wd_1250, ⟨by decide +kernel, by decide +kernel⟩, by decide +kernel⟩, wd_1248, wd_1249⟩
theorem kl_L_230 : k_ClV RL 230 yX8_reversedShare prog_10_method_53_code 1 (Option.some ClassFile.FieldType.float) 0 := ⟨⟨wd_1251, wd_6, wd_1254, ⟨by decide +kernel, by decide +kernel⟩, by decide +kernel⟩, wd_1252, wd_1253⟩
theorem kl_L_235 : k_ClV RL 235 yX8_sanctionDays prog_10_method_54_code 1 (Option.some ClassFile.FieldType.long) 0 := ⟨⟨wd_1255, wd_6, wd_1258, ⟨by decide +kernel, by decide +kernel⟩, by decide +kernel⟩, wd_1256, wd_1257⟩
theorem kl_L_240 : k_ClV RL 240 yX8_isConsistent prog_10_method_55_code 1 (Option.some ClassFile.FieldType.boolean) 0 := ⟨⟨wd_1259, wd_6, wd_1262, ⟨by decide +kernel, by decide +kernel⟩, by decide +kernel⟩, wd_1260, wd_1261⟩
theorem kw_0 : ∀ w ∈ u_ws RJx4a65c TJx4a65c 3, w ∈ k_Tb := by decide +kernel
theorem kw_1 : ∀ w ∈ u_ws RX0 TX0 2, w ∈ k_Tb := by decide +kernel
theorem kw_2 : ∀ w ∈ u_ws RX1 TX1 4, w ∈ k_Tb := by decide +kernel
theorem kw_3 : ∀ w ∈ u_ws RX2 TX2 13, w ∈ k_Tb := by decide +kernel
theorem kw_4 : ∀ w ∈ u_ws RX3 TX3 6, w ∈ k_Tb := by decide +kernel
theorem kw_5 : ∀ w ∈ u_ws RX4 TX4 3, w ∈ k_Tb := by decide +kernel
theorem kw_6 : ∀ w ∈ u_ws RX5 TX5 3, w ∈ k_Tb := by decide +kernel
theorem kw_7 : ∀ w ∈ u_ws RX6 TX6 1, w ∈ k_Tb := by decide +kernel
theorem kw_8 : ∀ w ∈ u_ws RX7 TX7 10, w ∈ k_Tb := by decide +kernel
theorem kw_9 : ∀ w ∈ u_ws RX8 TX8 33, w ∈ k_Tb := by decide +kernel
theorem kf_X5_9 : k_F RX5 9 6 3 0 := ⟨RX5, TX5, rfl, by decide, kw_6, wd_75⟩
theorem kp_X5_9 : k_FP RX5 9 6 3 0 (.array .char) true := ⟨RX5, TX5, tyX5, rfl, by decide, kw_6, wd_75, tyX5_ok, nmX5, rfl, rfl, fun _ => rfl⟩
theorem kf_X5_15 : k_F RX5 15 6 3 1 := ⟨RX5, TX5, rfl, by decide, kw_6, wd_76⟩
theorem kp_X5_15 : k_FP RX5 15 6 3 1 (.array .int) true := ⟨RX5, TX5, tyX5, rfl, by decide, kw_6, wd_76, tyX5_ok, nmX5, rfl, rfl, fun _ => rfl⟩
theorem kf_X5_22 : k_F RX5 22 6 3 2 := ⟨RX5, TX5, rfl, by decide, kw_6, wd_77⟩
theorem kp_X5_22 : k_FP RX5 22 6 3 2 .int false := ⟨RX5, TX5, tyX5, rfl, by decide, kw_6, wd_77, tyX5_ok, nmX5, rfl, rfl, fun _ => rfl⟩
theorem kf_X7_275 : k_F RX7 275 6 3 2 := ⟨RX5, TX5, rfl, by decide, kw_6, wd_78⟩
theorem kp_X7_275 : k_FP RX7 275 6 3 2 .int false := ⟨RX5, TX5, tyX5, rfl, by decide, kw_6, wd_78, tyX5_ok, nmX5, rfl, rfl, fun h => by cases h⟩
theorem kf_X7_10 : k_F RX7 10 8 10 0 := ⟨RX7, TX7, rfl, by decide, kw_8, wd_88⟩
theorem kp_X7_10 : k_FP RX7 10 8 10 0 (.object "java/util/ArrayList") true := ⟨RX7, TX7, tyX7, rfl, by decide, kw_8, wd_88, tyX7_ok, nmX7, rfl, rfl, fun _ => rfl⟩
theorem kf_X7_16 : k_F RX7 16 8 10 1 := ⟨RX7, TX7, rfl, by decide, kw_8, wd_89⟩
theorem kp_X7_16 : k_FP RX7 16 8 10 1 (.object "java/util/ArrayList") true := ⟨RX7, TX7, tyX7, rfl, by decide, kw_8, wd_89, tyX7_ok, nmX7, rfl, rfl, fun _ => rfl⟩
theorem kf_X7_19 : k_F RX7 19 8 10 2 := ⟨RX7, TX7, rfl, by decide, kw_8, wd_90⟩
theorem kp_X7_19 : k_FP RX7 19 8 10 2 (.object "java/util/ArrayList") true := ⟨RX7, TX7, tyX7, rfl, by decide, kw_8, wd_90, tyX7_ok, nmX7, rfl, rfl, fun _ => rfl⟩
theorem kf_X7_22 : k_F RX7 22 8 10 3 := ⟨RX7, TX7, rfl, by decide, kw_8, wd_91⟩
theorem kp_X7_22 : k_FP RX7 22 8 10 3 (.object "java/util/ArrayList") true := ⟨RX7, TX7, tyX7, rfl, by decide, kw_8, wd_91, tyX7_ok, nmX7, rfl, rfl, fun _ => rfl⟩
theorem kf_X7_25 : k_F RX7 25 8 10 4 := ⟨RX7, TX7, rfl, by decide, kw_8, wd_92⟩
theorem kp_X7_25 : k_FP RX7 25 8 10 4 (.object "java/util/ArrayList") true := ⟨RX7, TX7, tyX7, rfl, by decide, kw_8, wd_92, tyX7_ok, nmX7, rfl, rfl, fun _ => rfl⟩
theorem kf_X7_28 : k_F RX7 28 8 10 5 := ⟨RX7, TX7, rfl, by decide, kw_8, wd_93⟩
theorem kp_X7_28 : k_FP RX7 28 8 10 5 (.object "java/util/ArrayList") true := ⟨RX7, TX7, tyX7, rfl, by decide, kw_8, wd_93, tyX7_ok, nmX7, rfl, rfl, fun _ => rfl⟩
theorem kf_X7_34 : k_F RX7 34 8 10 6 := ⟨RX7, TX7, rfl, by decide, kw_8, wd_94⟩
theorem kp_X7_34 : k_FP RX7 34 8 10 6 (.object "PrecedentHall$Standing") true := ⟨RX7, TX7, tyX7, rfl, by decide, kw_8, wd_94, tyX7_ok, nmX7, rfl, rfl, fun _ => rfl⟩
theorem kf_X7_38 : k_F RX7 38 8 10 7 := ⟨RX7, TX7, rfl, by decide, kw_8, wd_95⟩
theorem kp_X7_38 : k_FP RX7 38 8 10 7 (.object "PrecedentHall$Standing") true := ⟨RX7, TX7, tyX7, rfl, by decide, kw_8, wd_95, tyX7_ok, nmX7, rfl, rfl, fun _ => rfl⟩
theorem kf_X7_41 : k_F RX7 41 8 10 8 := ⟨RX7, TX7, rfl, by decide, kw_8, wd_96⟩
theorem kp_X7_41 : k_FP RX7 41 8 10 8 .int false := ⟨RX7, TX7, tyX7, rfl, by decide, kw_8, wd_96, tyX7_ok, nmX7, rfl, rfl, fun _ => rfl⟩
theorem kf_X7_45 : k_F RX7 45 8 10 9 := ⟨RX7, TX7, rfl, by decide, kw_8, wd_97⟩
theorem kp_X7_45 : k_FP RX7 45 8 10 9 .int false := ⟨RX7, TX7, tyX7, rfl, by decide, kw_8, wd_97, tyX7_ok, nmX7, rfl, rfl, fun _ => rfl⟩
theorem kf_X3_9 : k_F RX3 9 4 6 0 := ⟨RX3, TX3, rfl, by decide, kw_4, wd_332⟩
theorem kp_X3_9 : k_FP RX3 9 4 6 0 .int true := ⟨RX3, TX3, tyX3, rfl, by decide, kw_4, wd_332, tyX3_ok, nmX3, rfl, rfl, fun _ => rfl⟩
theorem kf_X7_322 : k_F RX7 322 4 6 0 := ⟨RX3, TX3, rfl, by decide, kw_4, wd_333⟩
theorem kf_X3_15 : k_F RX3 15 4 6 1 := ⟨RX3, TX3, rfl, by decide, kw_4, wd_334⟩
theorem kp_X3_15 : k_FP RX3 15 4 6 1 .boolean true := ⟨RX3, TX3, tyX3, rfl, by decide, kw_4, wd_334, tyX3_ok, nmX3, rfl, rfl, fun _ => rfl⟩
theorem kf_X7_328 : k_F RX7 328 4 6 1 := ⟨RX3, TX3, rfl, by decide, kw_4, wd_335⟩
theorem kf_X3_19 : k_F RX3 19 4 6 2 := ⟨RX3, TX3, rfl, by decide, kw_4, wd_336⟩
theorem kp_X3_19 : k_FP RX3 19 4 6 2 .int true := ⟨RX3, TX3, tyX3, rfl, by decide, kw_4, wd_336, tyX3_ok, nmX3, rfl, rfl, fun _ => rfl⟩
theorem kf_X7_325 : k_F RX7 325 4 6 2 := ⟨RX3, TX3, rfl, by decide, kw_4, wd_337⟩
theorem kf_X3_22 : k_F RX3 22 4 6 3 := ⟨RX3, TX3, rfl, by decide, kw_4, wd_338⟩
theorem kp_X3_22 : k_FP RX3 22 4 6 3 .int true := ⟨RX3, TX3, tyX3, rfl, by decide, kw_4, wd_338, tyX3_ok, nmX3, rfl, rfl, fun _ => rfl⟩
theorem kf_X7_366 : k_F RX7 366 4 6 3 := ⟨RX3, TX3, rfl, by decide, kw_4, wd_339⟩
theorem kf_X3_25 : k_F RX3 25 4 6 4 := ⟨RX3, TX3, rfl, by decide, kw_4, wd_340⟩
theorem kp_X3_25 : k_FP RX3 25 4 6 4 .int true := ⟨RX3, TX3, tyX3, rfl, by decide, kw_4, wd_340, tyX3_ok, nmX3, rfl, rfl, fun _ => rfl⟩
theorem kf_X7_73 : k_F RX7 73 4 6 4 := ⟨RX3, TX3, rfl, by decide, kw_4, wd_341⟩
theorem kf_X3_28 : k_F RX3 28 4 6 5 := ⟨RX3, TX3, rfl, by decide, kw_4, wd_342⟩
theorem kp_X3_28 : k_FP RX3 28 4 6 5 .int false := ⟨RX3, TX3, tyX3, rfl, by decide, kw_4, wd_342, tyX3_ok, nmX3, rfl, rfl, fun _ => rfl⟩
theorem kf_X7_93 : k_F RX7 93 4 6 5 := ⟨RX3, TX3, rfl, by decide, kw_4, wd_343⟩
theorem kp_X7_93 : k_FP RX7 93 4 6 5 .int false := ⟨RX3, TX3, tyX3, rfl, by decide, kw_4, wd_343, tyX3_ok, nmX3, rfl, rfl, fun h => by cases h⟩
theorem kf_X6_7 : k_F RX6 7 7 1 0 := ⟨RX6, TX6, rfl, by decide, kw_7, wd_538⟩
theorem kp_X6_7 : k_FP RX6 7 7 1 0 .int false := ⟨RX6, TX6, tyX6, rfl, by decide, kw_7, wd_538, tyX6_ok, nmX6, rfl, rfl, fun _ => rfl⟩
theorem kf_X7_134 : k_F RX7 134 7 1 0 := ⟨RX6, TX6, rfl, by decide, kw_7, wd_539⟩
theorem kp_X7_134 : k_FP RX7 134 7 1 0 .int false := ⟨RX6, TX6, tyX6, rfl, by decide, kw_7, wd_539, tyX6_ok, nmX6, rfl, rfl, fun h => by cases h⟩
theorem kf_X0_9 : k_F RX0 9 1 2 0 := ⟨RX0, TX0, rfl, by decide, kw_1, wd_589⟩
theorem kp_X0_9 : k_FP RX0 9 1 2 0 .int true := ⟨RX0, TX0, tyX0, rfl, by decide, kw_1, wd_589, tyX0_ok, nmX0, rfl, rfl, fun _ => rfl⟩
theorem kf_X7_337 : k_F RX7 337 1 2 0 := ⟨RX0, TX0, rfl, by decide, kw_1, wd_590⟩
theorem kf_X0_15 : k_F RX0 15 1 2 1 := ⟨RX0, TX0, rfl, by decide, kw_1, wd_591⟩
theorem kp_X0_15 : k_FP RX0 15 1 2 1 .int false := ⟨RX0, TX0, tyX0, rfl, by decide, kw_1, wd_591, tyX0_ok, nmX0, rfl, rfl, fun _ => rfl⟩
theorem kf_X7_160 : k_F RX7 160 1 2 1 := ⟨RX0, TX0, rfl, by decide, kw_1, wd_592⟩
theorem kp_X7_160 : k_FP RX7 160 1 2 1 .int false := ⟨RX0, TX0, tyX0, rfl, by decide, kw_1, wd_592, tyX0_ok, nmX0, rfl, rfl, fun h => by cases h⟩
theorem kf_X2_9 : k_F RX2 9 3 13 0 := ⟨RX2, TX2, rfl, by decide, kw_3, wd_618⟩
theorem kp_X2_9 : k_FP RX2 9 3 13 0 .int true := ⟨RX2, TX2, tyX2, rfl, by decide, kw_3, wd_618, tyX2_ok, nmX2, rfl, rfl, fun _ => rfl⟩
theorem kf_X7_346 : k_F RX7 346 3 13 0 := ⟨RX2, TX2, rfl, by decide, kw_3, wd_619⟩
theorem kf_X2_15 : k_F RX2 15 3 13 1 := ⟨RX2, TX2, rfl, by decide, kw_3, wd_620⟩
theorem kp_X2_15 : k_FP RX2 15 3 13 1 (.object "PrecedentHall$User") true := ⟨RX2, TX2, tyX2, rfl, by decide, kw_3, wd_620, tyX2_ok, nmX2, rfl, rfl, fun _ => rfl⟩
theorem kf_X7_193 : k_F RX7 193 3 13 1 := ⟨RX2, TX2, rfl, by decide, kw_3, wd_621⟩
theorem kf_X2_19 : k_F RX2 19 3 13 2 := ⟨RX2, TX2, rfl, by decide, kw_3, wd_622⟩
theorem kp_X2_19 : k_FP RX2 19 3 13 2 (.object "PrecedentHall$User") true := ⟨RX2, TX2, tyX2, rfl, by decide, kw_3, wd_622, tyX2_ok, nmX2, rfl, rfl, fun _ => rfl⟩
theorem kf_X7_196 : k_F RX7 196 3 13 2 := ⟨RX2, TX2, rfl, by decide, kw_3, wd_623⟩
theorem kf_X2_22 : k_F RX2 22 3 13 3 := ⟨RX2, TX2, rfl, by decide, kw_3, wd_624⟩
theorem kp_X2_22 : k_FP RX2 22 3 13 3 .int true := ⟨RX2, TX2, tyX2, rfl, by decide, kw_3, wd_624, tyX2_ok, nmX2, rfl, rfl, fun _ => rfl⟩
theorem kf_X7_338 : k_F RX7 338 3 13 3 := ⟨RX2, TX2, rfl, by decide, kw_3, wd_625⟩
theorem kf_X2_25 : k_F RX2 25 3 13 4 := ⟨RX2, TX2, rfl, by decide, kw_3, wd_626⟩
theorem kp_X2_25 : k_FP RX2 25 3 13 4 .int true := ⟨RX2, TX2, tyX2, rfl, by decide, kw_3, wd_626, tyX2_ok, nmX2, rfl, rfl, fun _ => rfl⟩
theorem kf_X7_298 : k_F RX7 298 3 13 4 := ⟨RX2, TX2, rfl, by decide, kw_3, wd_627⟩
theorem kf_X2_28 : k_F RX2 28 3 13 5 := ⟨RX2, TX2, rfl, by decide, kw_3, wd_628⟩
theorem kp_X2_28 : k_FP RX2 28 3 13 5 .int true := ⟨RX2, TX2, tyX2, rfl, by decide, kw_3, wd_628, tyX2_ok, nmX2, rfl, rfl, fun _ => rfl⟩
theorem kf_X7_331 : k_F RX7 331 3 13 5 := ⟨RX2, TX2, rfl, by decide, kw_3, wd_629⟩
theorem kf_X2_31 : k_F RX2 31 3 13 6 := ⟨RX2, TX2, rfl, by decide, kw_3, wd_630⟩
theorem kp_X2_31 : k_FP RX2 31 3 13 6 (.array .int) true := ⟨RX2, TX2, tyX2, rfl, by decide, kw_3, wd_630, tyX2_ok, nmX2, rfl, rfl, fun _ => rfl⟩
theorem kf_X2_35 : k_F RX2 35 3 13 7 := ⟨RX2, TX2, rfl, by decide, kw_3, wd_631⟩
theorem kp_X2_35 : k_FP RX2 35 3 13 7 .char false := ⟨RX2, TX2, tyX2, rfl, by decide, kw_3, wd_631, tyX2_ok, nmX2, rfl, rfl, fun _ => rfl⟩
theorem kf_X7_185 : k_F RX7 185 3 13 7 := ⟨RX2, TX2, rfl, by decide, kw_3, wd_632⟩
theorem kp_X7_185 : k_FP RX7 185 3 13 7 .char false := ⟨RX2, TX2, tyX2, rfl, by decide, kw_3, wd_632, tyX2_ok, nmX2, rfl, rfl, fun h => by cases h⟩
theorem kf_X2_52 : k_F RX2 52 3 13 8 := ⟨RX2, TX2, rfl, by decide, kw_3, wd_633⟩
theorem kp_X2_52 : k_FP RX2 52 3 13 8 (.object "PrecedentHall$Bot") false := ⟨RX2, TX2, tyX2, rfl, by decide, kw_3, wd_633, tyX2_ok, nmX2, rfl, rfl, fun _ => rfl⟩
theorem kf_X7_177 : k_F RX7 177 3 13 8 := ⟨RX2, TX2, rfl, by decide, kw_3, wd_634⟩
theorem kp_X7_177 : k_FP RX7 177 3 13 8 (.object "PrecedentHall$Bot") false := ⟨RX2, TX2, tyX2, rfl, by decide, kw_3, wd_634, tyX2_ok, nmX2, rfl, rfl, fun h => by cases h⟩
theorem kf_X7_259 : k_F RX7 259 3 13 9 := ⟨RX2, TX2, rfl, by decide, kw_3, wd_635⟩
theorem kp_X7_259 : k_FP RX7 259 3 13 9 (.object "PrecedentHall$Sanction") false := ⟨RX2, TX2, tyX2, rfl, by decide, kw_3, wd_635, tyX2_ok, nmX2, rfl, rfl, fun h => by cases h⟩
theorem kf_X2_48 : k_F RX2 48 3 13 10 := ⟨RX2, TX2, rfl, by decide, kw_3, wd_636⟩
theorem kp_X2_48 : k_FP RX2 48 3 13 10 .boolean false := ⟨RX2, TX2, tyX2, rfl, by decide, kw_3, wd_636, tyX2_ok, nmX2, rfl, rfl, fun _ => rfl⟩
theorem kf_X7_242 : k_F RX7 242 3 13 10 := ⟨RX2, TX2, rfl, by decide, kw_3, wd_637⟩
theorem kp_X7_242 : k_FP RX7 242 3 13 10 .boolean false := ⟨RX2, TX2, tyX2, rfl, by decide, kw_3, wd_637, tyX2_ok, nmX2, rfl, rfl, fun h => by cases h⟩
theorem kf_X2_39 : k_F RX2 39 3 13 11 := ⟨RX2, TX2, rfl, by decide, kw_3, wd_638⟩
theorem kp_X2_39 : k_FP RX2 39 3 13 11 .char false := ⟨RX2, TX2, tyX2, rfl, by decide, kw_3, wd_638, tyX2_ok, nmX2, rfl, rfl, fun _ => rfl⟩
theorem kf_X7_248 : k_F RX7 248 3 13 11 := ⟨RX2, TX2, rfl, by decide, kw_3, wd_639⟩
theorem kp_X7_248 : k_FP RX7 248 3 13 11 .char false := ⟨RX2, TX2, tyX2, rfl, by decide, kw_3, wd_639, tyX2_ok, nmX2, rfl, rfl, fun h => by cases h⟩
theorem kf_X7_270 : k_F RX7 270 3 13 12 := ⟨RX2, TX2, rfl, by decide, kw_3, wd_640⟩
theorem kp_X7_270 : k_FP RX7 270 3 13 12 .boolean false := ⟨RX2, TX2, tyX2, rfl, by decide, kw_3, wd_640, tyX2_ok, nmX2, rfl, rfl, fun h => by cases h⟩
theorem kf_X1_7 : k_F RX1 7 2 4 0 := ⟨RX1, TX1, rfl, by decide, kw_2, wd_681⟩
theorem kp_X1_7 : k_FP RX1 7 2 4 0 (.object "PrecedentHall$Report") true := ⟨RX1, TX1, tyX1, rfl, by decide, kw_2, wd_681, tyX1_ok, nmX1, rfl, rfl, fun _ => rfl⟩
theorem kf_X7_379 : k_F RX7 379 2 4 0 := ⟨RX1, TX1, rfl, by decide, kw_2, wd_682⟩
theorem kf_X1_13 : k_F RX1 13 2 4 1 := ⟨RX1, TX1, rfl, by decide, kw_2, wd_683⟩
theorem kp_X1_13 : k_FP RX1 13 2 4 1 .boolean true := ⟨RX1, TX1, tyX1, rfl, by decide, kw_2, wd_683, tyX1_ok, nmX1, rfl, rfl, fun _ => rfl⟩
theorem kf_X7_383 : k_F RX7 383 2 4 1 := ⟨RX1, TX1, rfl, by decide, kw_2, wd_684⟩
theorem kf_X1_17 : k_F RX1 17 2 4 2 := ⟨RX1, TX1, rfl, by decide, kw_2, wd_685⟩
theorem kp_X1_17 : k_FP RX1 17 2 4 2 .int true := ⟨RX1, TX1, tyX1, rfl, by decide, kw_2, wd_685, tyX1_ok, nmX1, rfl, rfl, fun _ => rfl⟩
theorem kf_X7_386 : k_F RX7 386 2 4 2 := ⟨RX1, TX1, rfl, by decide, kw_2, wd_686⟩
theorem kf_X1_21 : k_F RX1 21 2 4 3 := ⟨RX1, TX1, rfl, by decide, kw_2, wd_687⟩
theorem kp_X1_21 : k_FP RX1 21 2 4 3 .int true := ⟨RX1, TX1, tyX1, rfl, by decide, kw_2, wd_687, tyX1_ok, nmX1, rfl, rfl, fun _ => rfl⟩
theorem kf_X7_388 : k_F RX7 388 2 4 3 := ⟨RX1, TX1, rfl, by decide, kw_2, wd_688⟩
theorem kf_X4_7 : k_F RX4 7 5 3 0 := ⟨RX4, TX4, rfl, by decide, kw_5, wd_707⟩
theorem kp_X4_7 : k_FP RX4 7 5 3 0 (.object "PrecedentHall$User") true := ⟨RX4, TX4, tyX4, rfl, by decide, kw_5, wd_707, tyX4_ok, nmX4, rfl, rfl, fun _ => rfl⟩
theorem kf_X7_145 : k_F RX7 145 5 3 0 := ⟨RX4, TX4, rfl, by decide, kw_5, wd_708⟩
theorem kf_X4_13 : k_F RX4 13 5 3 1 := ⟨RX4, TX4, rfl, by decide, kw_5, wd_709⟩
theorem kp_X4_13 : k_FP RX4 13 5 3 1 .int true := ⟨RX4, TX4, tyX4, rfl, by decide, kw_5, wd_709, tyX4_ok, nmX4, rfl, rfl, fun _ => rfl⟩
theorem kf_X4_17 : k_F RX4 17 5 3 2 := ⟨RX4, TX4, rfl, by decide, kw_5, wd_710⟩
theorem kp_X4_17 : k_FP RX4 17 5 3 2 .int false := ⟨RX4, TX4, tyX4, rfl, by decide, kw_5, wd_710, tyX4_ok, nmX4, rfl, rfl, fun _ => rfl⟩
theorem kf_X7_152 : k_F RX7 152 5 3 2 := ⟨RX4, TX4, rfl, by decide, kw_5, wd_711⟩
theorem kp_X7_152 : k_FP RX7 152 5 3 2 .int false := ⟨RX4, TX4, tyX4, rfl, by decide, kw_5, wd_711, tyX4_ok, nmX4, rfl, rfl, fun h => by cases h⟩
theorem kf_X8_84 : k_F RX8 84 9 33 0 := ⟨RX8, TX8, rfl, by decide, kw_9, wd_946⟩
theorem kp_X8_84 : k_FP RX8 84 9 33 0 .int false := ⟨RX8, TX8, tyX8, rfl, by decide, kw_9, wd_946, tyX8_ok, nmX8, rfl, rfl, fun _ => rfl⟩
theorem kf_X8_9 : k_F RX8 9 9 33 1 := ⟨RX8, TX8, rfl, by decide, kw_9, wd_947⟩
theorem kp_X8_9 : k_FP RX8 9 9 33 1 (.array .int) true := ⟨RX8, TX8, tyX8, rfl, by decide, kw_9, wd_947, tyX8_ok, nmX8, rfl, rfl, fun _ => rfl⟩
theorem kf_X8_13 : k_F RX8 13 9 33 2 := ⟨RX8, TX8, rfl, by decide, kw_9, wd_948⟩
theorem kp_X8_13 : k_FP RX8 13 9 33 2 (.array .int) true := ⟨RX8, TX8, tyX8, rfl, by decide, kw_9, wd_948, tyX8_ok, nmX8, rfl, rfl, fun _ => rfl⟩
theorem kf_X8_16 : k_F RX8 16 9 33 3 := ⟨RX8, TX8, rfl, by decide, kw_9, wd_949⟩
theorem kp_X8_16 : k_FP RX8 16 9 33 3 (.array .int) true := ⟨RX8, TX8, tyX8, rfl, by decide, kw_9, wd_949, tyX8_ok, nmX8, rfl, rfl, fun _ => rfl⟩
theorem kf_X8_19 : k_F RX8 19 9 33 4 := ⟨RX8, TX8, rfl, by decide, kw_9, wd_950⟩
theorem kp_X8_19 : k_FP RX8 19 9 33 4 (.array .int) true := ⟨RX8, TX8, tyX8, rfl, by decide, kw_9, wd_950, tyX8_ok, nmX8, rfl, rfl, fun _ => rfl⟩
theorem kf_X8_22 : k_F RX8 22 9 33 5 := ⟨RX8, TX8, rfl, by decide, kw_9, wd_951⟩
theorem kp_X8_22 : k_FP RX8 22 9 33 5 (.array .int) true := ⟨RX8, TX8, tyX8, rfl, by decide, kw_9, wd_951, tyX8_ok, nmX8, rfl, rfl, fun _ => rfl⟩
theorem kf_X8_25 : k_F RX8 25 9 33 6 := ⟨RX8, TX8, rfl, by decide, kw_9, wd_952⟩
theorem kp_X8_25 : k_FP RX8 25 9 33 6 (.array .int) true := ⟨RX8, TX8, tyX8, rfl, by decide, kw_9, wd_952, tyX8_ok, nmX8, rfl, rfl, fun _ => rfl⟩
theorem kf_X8_28 : k_F RX8 28 9 33 7 := ⟨RX8, TX8, rfl, by decide, kw_9, wd_953⟩
theorem kp_X8_28 : k_FP RX8 28 9 33 7 (.array .int) true := ⟨RX8, TX8, tyX8, rfl, by decide, kw_9, wd_953, tyX8_ok, nmX8, rfl, rfl, fun _ => rfl⟩
theorem kf_X8_31 : k_F RX8 31 9 33 8 := ⟨RX8, TX8, rfl, by decide, kw_9, wd_954⟩
theorem kp_X8_31 : k_FP RX8 31 9 33 8 (.array .int) true := ⟨RX8, TX8, tyX8, rfl, by decide, kw_9, wd_954, tyX8_ok, nmX8, rfl, rfl, fun _ => rfl⟩
theorem kf_X8_34 : k_F RX8 34 9 33 9 := ⟨RX8, TX8, rfl, by decide, kw_9, wd_955⟩
theorem kp_X8_34 : k_FP RX8 34 9 33 9 (.array .boolean) true := ⟨RX8, TX8, tyX8, rfl, by decide, kw_9, wd_955, tyX8_ok, nmX8, rfl, rfl, fun _ => rfl⟩
theorem kf_X8_87 : k_F RX8 87 9 33 10 := ⟨RX8, TX8, rfl, by decide, kw_9, wd_956⟩
theorem kp_X8_87 : k_FP RX8 87 9 33 10 .int false := ⟨RX8, TX8, tyX8, rfl, by decide, kw_9, wd_956, tyX8_ok, nmX8, rfl, rfl, fun _ => rfl⟩
theorem kf_X8_94 : k_F RX8 94 9 33 11 := ⟨RX8, TX8, rfl, by decide, kw_9, wd_957⟩
theorem kp_X8_94 : k_FP RX8 94 9 33 11 .int false := ⟨RX8, TX8, tyX8, rfl, by decide, kw_9, wd_957, tyX8_ok, nmX8, rfl, rfl, fun _ => rfl⟩
theorem kf_X8_143 : k_F RX8 143 9 33 12 := ⟨RX8, TX8, rfl, by decide, kw_9, wd_958⟩
theorem kp_X8_143 : k_FP RX8 143 9 33 12 .int false := ⟨RX8, TX8, tyX8, rfl, by decide, kw_9, wd_958, tyX8_ok, nmX8, rfl, rfl, fun _ => rfl⟩
theorem kf_X8_38 : k_F RX8 38 9 33 13 := ⟨RX8, TX8, rfl, by decide, kw_9, wd_959⟩
theorem kp_X8_38 : k_FP RX8 38 9 33 13 .int false := ⟨RX8, TX8, tyX8, rfl, by decide, kw_9, wd_959, tyX8_ok, nmX8, rfl, rfl, fun _ => rfl⟩
theorem kf_X8_100 : k_F RX8 100 9 33 14 := ⟨RX8, TX8, rfl, by decide, kw_9, wd_960⟩
theorem kp_X8_100 : k_FP RX8 100 9 33 14 .int false := ⟨RX8, TX8, tyX8, rfl, by decide, kw_9, wd_960, tyX8_ok, nmX8, rfl, rfl, fun _ => rfl⟩
theorem kf_X8_42 : k_F RX8 42 9 33 15 := ⟨RX8, TX8, rfl, by decide, kw_9, wd_961⟩
theorem kp_X8_42 : k_FP RX8 42 9 33 15 (.array .int) true := ⟨RX8, TX8, tyX8, rfl, by decide, kw_9, wd_961, tyX8_ok, nmX8, rfl, rfl, fun _ => rfl⟩
theorem kf_X8_45 : k_F RX8 45 9 33 16 := ⟨RX8, TX8, rfl, by decide, kw_9, wd_962⟩
theorem kp_X8_45 : k_FP RX8 45 9 33 16 (.array .int) true := ⟨RX8, TX8, tyX8, rfl, by decide, kw_9, wd_962, tyX8_ok, nmX8, rfl, rfl, fun _ => rfl⟩
theorem kf_X8_48 : k_F RX8 48 9 33 17 := ⟨RX8, TX8, rfl, by decide, kw_9, wd_963⟩
theorem kp_X8_48 : k_FP RX8 48 9 33 17 (.array .int) true := ⟨RX8, TX8, tyX8, rfl, by decide, kw_9, wd_963, tyX8_ok, nmX8, rfl, rfl, fun _ => rfl⟩
theorem kf_X8_51 : k_F RX8 51 9 33 18 := ⟨RX8, TX8, rfl, by decide, kw_9, wd_964⟩
theorem kp_X8_51 : k_FP RX8 51 9 33 18 (.array .int) true := ⟨RX8, TX8, tyX8, rfl, by decide, kw_9, wd_964, tyX8_ok, nmX8, rfl, rfl, fun _ => rfl⟩
theorem kf_X8_54 : k_F RX8 54 9 33 19 := ⟨RX8, TX8, rfl, by decide, kw_9, wd_965⟩
theorem kp_X8_54 : k_FP RX8 54 9 33 19 (.array .int) true := ⟨RX8, TX8, tyX8, rfl, by decide, kw_9, wd_965, tyX8_ok, nmX8, rfl, rfl, fun _ => rfl⟩
theorem kf_X8_57 : k_F RX8 57 9 33 20 := ⟨RX8, TX8, rfl, by decide, kw_9, wd_966⟩
theorem kp_X8_57 : k_FP RX8 57 9 33 20 (.array .int) true := ⟨RX8, TX8, tyX8, rfl, by decide, kw_9, wd_966, tyX8_ok, nmX8, rfl, rfl, fun _ => rfl⟩
theorem kf_X8_60 : k_F RX8 60 9 33 21 := ⟨RX8, TX8, rfl, by decide, kw_9, wd_967⟩
theorem kp_X8_60 : k_FP RX8 60 9 33 21 (.array .int) true := ⟨RX8, TX8, tyX8, rfl, by decide, kw_9, wd_967, tyX8_ok, nmX8, rfl, rfl, fun _ => rfl⟩
theorem kf_X8_63 : k_F RX8 63 9 33 22 := ⟨RX8, TX8, rfl, by decide, kw_9, wd_968⟩
theorem kp_X8_63 : k_FP RX8 63 9 33 22 (.array .int) true := ⟨RX8, TX8, tyX8, rfl, by decide, kw_9, wd_968, tyX8_ok, nmX8, rfl, rfl, fun _ => rfl⟩
theorem kf_X8_66 : k_F RX8 66 9 33 23 := ⟨RX8, TX8, rfl, by decide, kw_9, wd_969⟩
theorem kp_X8_66 : k_FP RX8 66 9 33 23 (.array .int) true := ⟨RX8, TX8, tyX8, rfl, by decide, kw_9, wd_969, tyX8_ok, nmX8, rfl, rfl, fun _ => rfl⟩
theorem kf_X8_69 : k_F RX8 69 9 33 24 := ⟨RX8, TX8, rfl, by decide, kw_9, wd_970⟩
theorem kp_X8_69 : k_FP RX8 69 9 33 24 (.array .char) true := ⟨RX8, TX8, tyX8, rfl, by decide, kw_9, wd_970, tyX8_ok, nmX8, rfl, rfl, fun _ => rfl⟩
theorem kf_X8_73 : k_F RX8 73 9 33 25 := ⟨RX8, TX8, rfl, by decide, kw_9, wd_971⟩
theorem kp_X8_73 : k_FP RX8 73 9 33 25 (.array .char) true := ⟨RX8, TX8, tyX8, rfl, by decide, kw_9, wd_971, tyX8_ok, nmX8, rfl, rfl, fun _ => rfl⟩
theorem kf_X8_76 : k_F RX8 76 9 33 26 := ⟨RX8, TX8, rfl, by decide, kw_9, wd_972⟩
theorem kp_X8_76 : k_FP RX8 76 9 33 26 (.array .char) true := ⟨RX8, TX8, tyX8, rfl, by decide, kw_9, wd_972, tyX8_ok, nmX8, rfl, rfl, fun _ => rfl⟩
theorem kf_X8_81 : k_F RX8 81 9 33 27 := ⟨RX8, TX8, rfl, by decide, kw_9, wd_973⟩
theorem kp_X8_81 : k_FP RX8 81 9 33 27 (.array (.array .int)) true := ⟨RX8, TX8, tyX8, rfl, by decide, kw_9, wd_973, tyX8_ok, nmX8, rfl, rfl, fun _ => rfl⟩
theorem kf_X8_97 : k_F RX8 97 9 33 28 := ⟨RX8, TX8, rfl, by decide, kw_9, wd_974⟩
theorem kp_X8_97 : k_FP RX8 97 9 33 28 .int false := ⟨RX8, TX8, tyX8, rfl, by decide, kw_9, wd_974, tyX8_ok, nmX8, rfl, rfl, fun _ => rfl⟩
theorem kf_X8_159 : k_F RX8 159 9 33 29 := ⟨RX8, TX8, rfl, by decide, kw_9, wd_975⟩
theorem kp_X8_159 : k_FP RX8 159 9 33 29 .int false := ⟨RX8, TX8, tyX8, rfl, by decide, kw_9, wd_975, tyX8_ok, nmX8, rfl, rfl, fun _ => rfl⟩
theorem kf_X8_172 : k_F RX8 172 9 33 30 := ⟨RX8, TX8, rfl, by decide, kw_9, wd_976⟩
theorem kp_X8_172 : k_FP RX8 172 9 33 30 .int false := ⟨RX8, TX8, tyX8, rfl, by decide, kw_9, wd_976, tyX8_ok, nmX8, rfl, rfl, fun _ => rfl⟩
theorem kf_X8_175 : k_F RX8 175 9 33 31 := ⟨RX8, TX8, rfl, by decide, kw_9, wd_977⟩
theorem kp_X8_175 : k_FP RX8 175 9 33 31 .int false := ⟨RX8, TX8, tyX8, rfl, by decide, kw_9, wd_977, tyX8_ok, nmX8, rfl, rfl, fun _ => rfl⟩
theorem kf_X8_191 : k_F RX8 191 9 33 32 := ⟨RX8, TX8, rfl, by decide, kw_9, wd_978⟩
theorem kp_X8_191 : k_FP RX8 191 9 33 32 .long false := ⟨RX8, TX8, tyX8, rfl, by decide, kw_9, wd_978, tyX8_ok, nmX8, rfl, rfl, fun _ => rfl⟩
