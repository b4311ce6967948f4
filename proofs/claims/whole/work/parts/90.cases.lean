/-! ===== THE LAW'S WALK: cases 11 to 21 (written by wip/whole/gen_law.py) ===== -/
theorem w_case_file {X : k_X} {la : Launch} {G : k_G} {σ0 : k_S} {nm : String} {b Ln : Nat} {xs : Nat → Int32} (C : w_C X la G σ0 nm b Ln xs) {σ : k_S} {T k n i : Nat} (hI : q_I T σ σ) (hi : i + 6 ≤ Ln) (hk : k + 12 ≤ 603072) (hn : n + 958 ≤ 7198825)
    (K : ∀ (T : Nat) (σ2 : k_S) (k2 n2 : Nat), q_I T σ2 σ2 → k2 ≤ k + 12 → n2 ≤ n + 958 → k_W X σ2 k2 n2 2111 (w_L b i none none none) []) : k_W X σ k n 927 (w_L b i none none none) [] := by
  obtain ⟨hla, h, hMe, hX, hbl, hbA, hLn⟩ := id C
  obtain ⟨kx, σ1, v, σ2, T2, e1, e2, hth, hv, hI2⟩ := g_file hI (xs (i + 1)) (xs (i + 2)) (xs (i + 3)) (xs (i + 4))
  have K2 := K T2 σ2 (k + 12 + 0) (n + 958 + 0) hI2 (by omega) (by omega)
  refine r_aload_n h dL_law_927 rfl ?_
  refine w_arg C 1 (by omega) dL_law_928 dL_law_929 dL_law_931 (by decide) dL_law_932 dL_law_933 ?_
  refine w_arg C 2 (by omega) dL_law_934 dL_law_935 dL_law_937 (by decide) dL_law_938 dL_law_939 ?_
  refine w_arg C 3 (by omega) dL_law_940 dL_law_941 dL_law_943 (by decide) dL_law_944 dL_law_945 ?_
  refine w_arg C 4 (by omega) dL_law_946 dL_law_947 dL_law_949 (by decide) dL_law_950 dL_law_951 ?_
  refine r_aload_n h dL_law_952 rfl ?_
  refine r_callSW h hMe (rest := []) (as := [k_p 0 0, k_i (xs (i + 1)), k_i (xs (i + 2)), k_i (xs (i + 3)), k_i (xs (i + 4)), k_p 18 0]) (oc := .inl (k_mI kx, σ1)) (j_L_file la hla G _ 0 (xs (i + 1)) (xs (i + 2)) (xs (i + 3)) (xs (i + 4)) 0 (kx, σ1) e1) kl_L_165 dL_law_953 rfl rfl ⟨rfl, rfl, Nat.le_of_ble_eq_true rfl, Nat.le_of_ble_eq_true rfl, by show k + 12 ≤ 603072; omega, by show n + 958 ≤ 7198825; omega, Nat.le_of_ble_eq_true rfl⟩ (fun E q => by cases q) (fun r s q => ?_)
  cases q
  show k_W X _ _ _ _ _ [k_i kx]
  refine r_istore (L' := w_L b i (some (k_i kx)) none none) h dL_law_956 (by decide) rfl ?_
  refine r_aload_n h dL_law_958 rfl ?_
  refine w_arg C 1 (by omega) dL_law_959 dL_law_960 dL_law_962 (by decide) dL_law_963 dL_law_964 ?_
  refine w_arg C 2 (by omega) dL_law_965 dL_law_966 dL_law_968 (by decide) dL_law_969 dL_law_970 ?_
  refine w_arg C 3 (by omega) dL_law_971 dL_law_972 dL_law_974 (by decide) dL_law_975 dL_law_976 ?_
  refine w_arg C 4 (by omega) dL_law_977 dL_law_978 dL_law_980 (by decide) dL_law_981 dL_law_982 ?_
  refine r_callV h hMe (rest := []) (as := [k_i (xs (i + 1)), k_i (xs (i + 2)), k_i (xs (i + 3)), k_i (xs (i + 4))]) (oc := .inl (k_mI v, σ2)) (j_X8_file la hla G _ 0 (xs (i + 1)) (xs (i + 2)) (xs (i + 3)) (xs (i + 4)) (v, σ2) e2) kl_L_168 dL_law_983 rfl rfl rfl rfl rfl ⟨rfl, rfl, Nat.le_of_ble_eq_true rfl, Nat.le_of_ble_eq_true rfl, by show k + 12 + 0 ≤ 603072; omega, by show n + 958 + 0 ≤ 7198825; omega, Nat.le_of_ble_eq_true rfl⟩ (fun E q => by cases q) (fun r s q => ?_)
  cases q
  show k_W X _ _ _ _ _ [k_i v]
  exact w_tail C ⟨dL_law_986, dL_law_988, dL_law_989, dL_law_992, dL_law_994, dL_law_999, dL_law_1001, dL_law_1004, dL_law_1005, dL_law_1006, dL_law_1007, dL_law_1009, dL_law_1010, dL_law_1011, dL_law_1016, by decide⟩ hth hv ⟨by omega, by omega⟩ K2
theorem w_case_state {X : k_X} {la : Launch} {G : k_G} {σ0 : k_S} {nm : String} {b Ln : Nat} {xs : Nat → Int32} (C : w_C X la G σ0 nm b Ln xs) {σ : k_S} {T k n i : Nat} (hI : q_I T σ σ) (hi : i + 6 ≤ Ln) (hk : k + 12 ≤ 603072) (hn : n + 958 ≤ 7198825)
    (K : ∀ (T : Nat) (σ2 : k_S) (k2 n2 : Nat), q_I T σ2 σ2 → k2 ≤ k + 12 → n2 ≤ n + 958 → k_W X σ2 k2 n2 2111 (w_L b i none none none) []) : k_W X σ k n 1019 (w_L b i none none none) [] := by
  obtain ⟨hla, h, hMe, hX, hbl, hbA, hLn⟩ := id C
  obtain ⟨kx, σ1, v, σ2, T2, e1, e2, hth, hv, hI2⟩ := g_state hI (xs (i + 1))
  have K2 := K T2 σ2 (k + 1 + 0) (n + 6 + 0) hI2 (by omega) (by omega)
  refine r_aload_n h dL_law_1019 rfl ?_
  refine w_arg C 1 (by omega) dL_law_1020 dL_law_1021 dL_law_1023 (by decide) dL_law_1024 dL_law_1025 ?_
  refine r_aload_n h dL_law_1026 rfl ?_
  refine r_callSW h hMe (rest := []) (as := [k_p 0 0, k_i (xs (i + 1)), k_p 18 0]) (oc := .inl (k_mI kx, σ1)) (j_L_state la hla G _ 0 (xs (i + 1)) 0 (kx, σ1) e1) kl_L_169 dL_law_1027 rfl rfl ⟨rfl, rfl, Nat.le_of_ble_eq_true rfl, Nat.le_of_ble_eq_true rfl, by show k + 1 ≤ 603072; omega, by show n + 6 ≤ 7198825; omega, Nat.le_of_ble_eq_true rfl⟩ (fun E q => by cases q) (fun r s q => ?_)
  cases q
  show k_W X _ _ _ _ _ [k_i kx]
  refine r_istore (L' := w_L b i (some (k_i kx)) none none) h dL_law_1030 (by decide) rfl ?_
  refine r_aload_n h dL_law_1032 rfl ?_
  refine w_arg C 1 (by omega) dL_law_1033 dL_law_1034 dL_law_1036 (by decide) dL_law_1037 dL_law_1038 ?_
  refine r_callV h hMe (rest := []) (as := [k_i (xs (i + 1))]) (oc := .inl (k_mI v, σ2)) (j_X8_state la hla G _ 0 (xs (i + 1)) (v, σ2) e2) kl_L_171 dL_law_1039 rfl rfl rfl rfl rfl ⟨rfl, rfl, Nat.le_of_ble_eq_true rfl, Nat.le_of_ble_eq_true rfl, by show k + 1 + 0 ≤ 603072; omega, by show n + 6 + 0 ≤ 7198825; omega, Nat.le_of_ble_eq_true rfl⟩ (fun E q => by cases q) (fun r s q => ?_)
  cases q
  show k_W X _ _ _ _ _ [k_i v]
  exact w_tail C ⟨dL_law_1042, dL_law_1044, dL_law_1045, dL_law_1048, dL_law_1050, dL_law_1055, dL_law_1057, dL_law_1060, dL_law_1061, dL_law_1062, dL_law_1063, dL_law_1065, dL_law_1066, dL_law_1067, dL_law_1072, by decide⟩ hth hv ⟨by omega, by omega⟩ K2
theorem w_case_vote {X : k_X} {la : Launch} {G : k_G} {σ0 : k_S} {nm : String} {b Ln : Nat} {xs : Nat → Int32} (C : w_C X la G σ0 nm b Ln xs) {σ : k_S} {T k n i : Nat} (hI : q_I T σ σ) (hi : i + 6 ≤ Ln) (hk : k + 12 ≤ 603072) (hn : n + 958 ≤ 7198825)
    (K : ∀ (T : Nat) (σ2 : k_S) (k2 n2 : Nat), q_I T σ2 σ2 → k2 ≤ k + 12 → n2 ≤ n + 958 → k_W X σ2 k2 n2 2111 (w_L b i none none none) []) : k_W X σ k n 1075 (w_L b i none none none) [] := by
  obtain ⟨hla, h, hMe, hX, hbl, hbA, hLn⟩ := id C
  obtain ⟨kx, σ1, v, σ2, T2, e1, e2, hth, hv, hI2⟩ := g_vote hI (xs (i + 1)) (xs (i + 2)) (w_01 (xs (i + 3)))
  have K2 := K T2 σ2 (k + 4 + 0) (n + 24 + 0) hI2 (by omega) (by omega)
  refine r_aload_n h dL_law_1075 rfl ?_
  refine w_arg C 1 (by omega) dL_law_1076 dL_law_1077 dL_law_1079 (by decide) dL_law_1080 dL_law_1081 ?_
  refine w_arg C 2 (by omega) dL_law_1082 dL_law_1083 dL_law_1085 (by decide) dL_law_1086 dL_law_1087 ?_
  refine w_arg C 3 (by omega) dL_law_1088 dL_law_1089 dL_law_1091 (by decide) dL_law_1092 dL_law_1093 ?_
  refine w_bool C dL_law_1094 dL_law_1097 dL_law_1098 dL_law_1101 ?_
  refine r_aload_n h dL_law_1102 rfl ?_
  refine r_callSW h hMe (rest := []) (as := [k_p 0 0, k_i (xs (i + 1)), k_i (xs (i + 2)), k_i (w_01 (xs (i + 3))), k_p 18 0]) (oc := .inl (k_mI kx, σ1)) (j_L_vote la hla G _ 0 (xs (i + 1)) (xs (i + 2)) (w_01 (xs (i + 3))) 0 (kx, σ1) e1) kl_L_172 dL_law_1103 rfl rfl ⟨rfl, rfl, Nat.le_of_ble_eq_true rfl, Nat.le_of_ble_eq_true rfl, by show k + 4 ≤ 603072; omega, by show n + 24 ≤ 7198825; omega, Nat.le_of_ble_eq_true rfl⟩ (fun E q => by cases q) (fun r s q => ?_)
  cases q
  show k_W X _ _ _ _ _ [k_i kx]
  refine r_istore (L' := w_L b i (some (k_i kx)) none none) h dL_law_1106 (by decide) rfl ?_
  refine r_aload_n h dL_law_1108 rfl ?_
  refine w_arg C 1 (by omega) dL_law_1109 dL_law_1110 dL_law_1112 (by decide) dL_law_1113 dL_law_1114 ?_
  refine w_arg C 2 (by omega) dL_law_1115 dL_law_1116 dL_law_1118 (by decide) dL_law_1119 dL_law_1120 ?_
  refine w_arg C 3 (by omega) dL_law_1121 dL_law_1122 dL_law_1124 (by decide) dL_law_1125 dL_law_1126 ?_
  refine w_bool C dL_law_1127 dL_law_1130 dL_law_1131 dL_law_1134 ?_
  refine r_callV h hMe (rest := []) (as := [k_i (xs (i + 1)), k_i (xs (i + 2)), k_i (w_01 (xs (i + 3)))]) (oc := .inl (k_mI v, σ2)) (j_X8_vote la hla G _ 0 (xs (i + 1)) (xs (i + 2)) (w_01 (xs (i + 3))) (v, σ2) e2) kl_L_175 dL_law_1135 rfl rfl rfl rfl rfl ⟨rfl, rfl, Nat.le_of_ble_eq_true rfl, Nat.le_of_ble_eq_true rfl, by show k + 4 + 0 ≤ 603072; omega, by show n + 24 + 0 ≤ 7198825; omega, Nat.le_of_ble_eq_true rfl⟩ (fun E q => by cases q) (fun r s q => ?_)
  cases q
  show k_W X _ _ _ _ _ [k_i v]
  exact w_tail C ⟨dL_law_1138, dL_law_1140, dL_law_1141, dL_law_1144, dL_law_1146, dL_law_1151, dL_law_1153, dL_law_1156, dL_law_1157, dL_law_1158, dL_law_1159, dL_law_1161, dL_law_1162, dL_law_1163, dL_law_1168, by decide⟩ hth hv ⟨by omega, by omega⟩ K2
theorem w_case_weightFor {X : k_X} {la : Launch} {G : k_G} {σ0 : k_S} {nm : String} {b Ln : Nat} {xs : Nat → Int32} (C : w_C X la G σ0 nm b Ln xs) {σ : k_S} {T k n i : Nat} (hI : q_I T σ σ) (hi : i + 6 ≤ Ln) (hk : k + 12 ≤ 603072) (hn : n + 958 ≤ 7198825)
    (K : ∀ (T : Nat) (σ2 : k_S) (k2 n2 : Nat), q_I T σ2 σ2 → k2 ≤ k + 12 → n2 ≤ n + 958 → k_W X σ2 k2 n2 2111 (w_L b i none none none) []) : k_W X σ k n 1171 (w_L b i none none none) [] := by
  obtain ⟨hla, h, hMe, hX, hbl, hbA, hLn⟩ := id C
  obtain ⟨kx, σ1, v, σ2, T2, e1, e2, hth, hv, hI2⟩ := g_weightFor hI (xs (i + 1))
  have K2 := K T2 σ2 (k + 1 + 0) (n + 6 + 0) hI2 (by omega) (by omega)
  refine r_aload_n h dL_law_1171 rfl ?_
  refine w_arg C 1 (by omega) dL_law_1172 dL_law_1173 dL_law_1175 (by decide) dL_law_1176 dL_law_1177 ?_
  refine r_aload_n h dL_law_1178 rfl ?_
  refine r_callSW h hMe (rest := []) (as := [k_p 0 0, k_i (xs (i + 1)), k_p 18 0]) (oc := .inl (k_mI kx, σ1)) (j_L_weightFor la hla G _ 0 (xs (i + 1)) 0 (kx, σ1) e1) kl_L_176 dL_law_1179 rfl rfl ⟨rfl, rfl, Nat.le_of_ble_eq_true rfl, Nat.le_of_ble_eq_true rfl, by show k + 1 ≤ 603072; omega, by show n + 6 ≤ 7198825; omega, Nat.le_of_ble_eq_true rfl⟩ (fun E q => by cases q) (fun r s q => ?_)
  cases q
  show k_W X _ _ _ _ _ [k_i kx]
  refine r_istore (L' := w_L b i (some (k_i kx)) none none) h dL_law_1182 (by decide) rfl ?_
  refine r_aload_n h dL_law_1184 rfl ?_
  refine w_arg C 1 (by omega) dL_law_1185 dL_law_1186 dL_law_1188 (by decide) dL_law_1189 dL_law_1190 ?_
  refine r_callV h hMe (rest := []) (as := [k_i (xs (i + 1))]) (oc := .inl (k_mI v, σ2)) (j_X8_weightFor la hla G _ 0 (xs (i + 1)) (v, σ2) e2) kl_L_178 dL_law_1191 rfl rfl rfl rfl rfl ⟨rfl, rfl, Nat.le_of_ble_eq_true rfl, Nat.le_of_ble_eq_true rfl, by show k + 1 + 0 ≤ 603072; omega, by show n + 6 + 0 ≤ 7198825; omega, Nat.le_of_ble_eq_true rfl⟩ (fun E q => by cases q) (fun r s q => ?_)
  cases q
  show k_W X _ _ _ _ _ [k_i v]
  exact w_tail C ⟨dL_law_1194, dL_law_1196, dL_law_1197, dL_law_1200, dL_law_1202, dL_law_1207, dL_law_1209, dL_law_1212, dL_law_1213, dL_law_1214, dL_law_1215, dL_law_1217, dL_law_1218, dL_law_1219, dL_law_1224, by decide⟩ hth hv ⟨by omega, by omega⟩ K2
theorem w_case_weightAgainst {X : k_X} {la : Launch} {G : k_G} {σ0 : k_S} {nm : String} {b Ln : Nat} {xs : Nat → Int32} (C : w_C X la G σ0 nm b Ln xs) {σ : k_S} {T k n i : Nat} (hI : q_I T σ σ) (hi : i + 6 ≤ Ln) (hk : k + 12 ≤ 603072) (hn : n + 958 ≤ 7198825)
    (K : ∀ (T : Nat) (σ2 : k_S) (k2 n2 : Nat), q_I T σ2 σ2 → k2 ≤ k + 12 → n2 ≤ n + 958 → k_W X σ2 k2 n2 2111 (w_L b i none none none) []) : k_W X σ k n 1227 (w_L b i none none none) [] := by
  obtain ⟨hla, h, hMe, hX, hbl, hbA, hLn⟩ := id C
  obtain ⟨kx, σ1, v, σ2, T2, e1, e2, hth, hv, hI2⟩ := g_weightAgainst hI (xs (i + 1))
  have K2 := K T2 σ2 (k + 1 + 0) (n + 6 + 0) hI2 (by omega) (by omega)
  refine r_aload_n h dL_law_1227 rfl ?_
  refine w_arg C 1 (by omega) dL_law_1228 dL_law_1229 dL_law_1231 (by decide) dL_law_1232 dL_law_1233 ?_
  refine r_aload_n h dL_law_1234 rfl ?_
  refine r_callSW h hMe (rest := []) (as := [k_p 0 0, k_i (xs (i + 1)), k_p 18 0]) (oc := .inl (k_mI kx, σ1)) (j_L_weightAgainst la hla G _ 0 (xs (i + 1)) 0 (kx, σ1) e1) kl_L_179 dL_law_1235 rfl rfl ⟨rfl, rfl, Nat.le_of_ble_eq_true rfl, Nat.le_of_ble_eq_true rfl, by show k + 1 ≤ 603072; omega, by show n + 6 ≤ 7198825; omega, Nat.le_of_ble_eq_true rfl⟩ (fun E q => by cases q) (fun r s q => ?_)
  cases q
  show k_W X _ _ _ _ _ [k_i kx]
  refine r_istore (L' := w_L b i (some (k_i kx)) none none) h dL_law_1238 (by decide) rfl ?_
  refine r_aload_n h dL_law_1240 rfl ?_
  refine w_arg C 1 (by omega) dL_law_1241 dL_law_1242 dL_law_1244 (by decide) dL_law_1245 dL_law_1246 ?_
  refine r_callV h hMe (rest := []) (as := [k_i (xs (i + 1))]) (oc := .inl (k_mI v, σ2)) (j_X8_weightAgainst la hla G _ 0 (xs (i + 1)) (v, σ2) e2) kl_L_181 dL_law_1247 rfl rfl rfl rfl rfl ⟨rfl, rfl, Nat.le_of_ble_eq_true rfl, Nat.le_of_ble_eq_true rfl, by show k + 1 + 0 ≤ 603072; omega, by show n + 6 + 0 ≤ 7198825; omega, Nat.le_of_ble_eq_true rfl⟩ (fun E q => by cases q) (fun r s q => ?_)
  cases q
  show k_W X _ _ _ _ _ [k_i v]
  exact w_tail C ⟨dL_law_1250, dL_law_1252, dL_law_1253, dL_law_1256, dL_law_1258, dL_law_1263, dL_law_1265, dL_law_1268, dL_law_1269, dL_law_1270, dL_law_1271, dL_law_1273, dL_law_1274, dL_law_1275, dL_law_1280, by decide⟩ hth hv ⟨by omega, by omega⟩ K2
theorem w_case_setQuorum {X : k_X} {la : Launch} {G : k_G} {σ0 : k_S} {nm : String} {b Ln : Nat} {xs : Nat → Int32} (C : w_C X la G σ0 nm b Ln xs) {σ : k_S} {T k n i : Nat} (hI : q_I T σ σ) (hi : i + 6 ≤ Ln) (hk : k + 12 ≤ 603072) (hn : n + 958 ≤ 7198825)
    (K : ∀ (T : Nat) (σ2 : k_S) (k2 n2 : Nat), q_I T σ2 σ2 → k2 ≤ k + 12 → n2 ≤ n + 958 → k_W X σ2 k2 n2 2111 (w_L b i none none none) []) : k_W X σ k n 1283 (w_L b i none none none) [] := by
  obtain ⟨hla, h, hMe, hX, hbl, hbA, hLn⟩ := id C
  obtain ⟨kx, σ1, v, σ2, T2, e1, e2, hth, hv, hI2⟩ := g_setQuorum hI (xs (i + 1))
  have K2 := K T2 σ2 (k + 1 + 0) (n + 6 + 0) hI2 (by omega) (by omega)
  refine r_aload_n h dL_law_1283 rfl ?_
  refine w_arg C 1 (by omega) dL_law_1284 dL_law_1285 dL_law_1287 (by decide) dL_law_1288 dL_law_1289 ?_
  refine r_aload_n h dL_law_1290 rfl ?_
  refine r_callSW h hMe (rest := []) (as := [k_p 0 0, k_i (xs (i + 1)), k_p 18 0]) (oc := .inl (k_mI kx, σ1)) (j_L_setQuorum la hla G _ 0 (xs (i + 1)) 0 (kx, σ1) e1) kl_L_182 dL_law_1291 rfl rfl ⟨rfl, rfl, Nat.le_of_ble_eq_true rfl, Nat.le_of_ble_eq_true rfl, by show k + 1 ≤ 603072; omega, by show n + 6 ≤ 7198825; omega, Nat.le_of_ble_eq_true rfl⟩ (fun E q => by cases q) (fun r s q => ?_)
  cases q
  show k_W X _ _ _ _ _ [k_i kx]
  refine r_istore (L' := w_L b i (some (k_i kx)) none none) h dL_law_1294 (by decide) rfl ?_
  refine r_aload_n h dL_law_1296 rfl ?_
  refine w_arg C 1 (by omega) dL_law_1297 dL_law_1298 dL_law_1300 (by decide) dL_law_1301 dL_law_1302 ?_
  refine r_callV h hMe (rest := []) (as := [k_i (xs (i + 1))]) (oc := .inl (k_mI v, σ2)) (j_X8_setQuorum la hla G _ 0 (xs (i + 1)) (v, σ2) e2) kl_L_184 dL_law_1303 rfl rfl rfl rfl rfl ⟨rfl, rfl, Nat.le_of_ble_eq_true rfl, Nat.le_of_ble_eq_true rfl, by show k + 1 + 0 ≤ 603072; omega, by show n + 6 + 0 ≤ 7198825; omega, Nat.le_of_ble_eq_true rfl⟩ (fun E q => by cases q) (fun r s q => ?_)
  cases q
  show k_W X _ _ _ _ _ [k_i v]
  exact w_tail C ⟨dL_law_1306, dL_law_1308, dL_law_1309, dL_law_1312, dL_law_1314, dL_law_1319, dL_law_1321, dL_law_1324, dL_law_1325, dL_law_1326, dL_law_1327, dL_law_1329, dL_law_1330, dL_law_1331, dL_law_1336, by decide⟩ hth hv ⟨by omega, by omega⟩ K2
theorem w_case_precedent {X : k_X} {la : Launch} {G : k_G} {σ0 : k_S} {nm : String} {b Ln : Nat} {xs : Nat → Int32} (C : w_C X la G σ0 nm b Ln xs) {σ : k_S} {T k n i : Nat} (hI : q_I T σ σ) (hi : i + 6 ≤ Ln) (hk : k + 12 ≤ 603072) (hn : n + 958 ≤ 7198825)
    (K : ∀ (T : Nat) (σ2 : k_S) (k2 n2 : Nat), q_I T σ2 σ2 → k2 ≤ k + 12 → n2 ≤ n + 958 → k_W X σ2 k2 n2 2111 (w_L b i none none none) []) : k_W X σ k n 1339 (w_L b i none none none) [] := by
  obtain ⟨hla, h, hMe, hX, hbl, hbA, hLn⟩ := id C
  obtain ⟨kx, σ1, v, σ2, T2, e1, e2, hth, hv, hI2⟩ := g_precedent hI (xs (i + 1))
  have K2 := K T2 σ2 (k + 2 + 0) (n + 12 + 0) hI2 (by omega) (by omega)
  refine r_aload_n h dL_law_1339 rfl ?_
  refine w_arg C 1 (by omega) dL_law_1340 dL_law_1341 dL_law_1343 (by decide) dL_law_1344 dL_law_1345 ?_
  refine r_aload_n h dL_law_1346 rfl ?_
  refine r_callSW h hMe (rest := []) (as := [k_p 0 0, k_i (xs (i + 1)), k_p 18 0]) (oc := .inl (k_mI kx, σ1)) (j_L_precedent la hla G _ 0 (xs (i + 1)) 0 (kx, σ1) e1) kl_L_185 dL_law_1347 rfl rfl ⟨rfl, rfl, Nat.le_of_ble_eq_true rfl, Nat.le_of_ble_eq_true rfl, by show k + 2 ≤ 603072; omega, by show n + 12 ≤ 7198825; omega, Nat.le_of_ble_eq_true rfl⟩ (fun E q => by cases q) (fun r s q => ?_)
  cases q
  show k_W X _ _ _ _ _ [k_i kx]
  refine r_istore (L' := w_L b i (some (k_i kx)) none none) h dL_law_1350 (by decide) rfl ?_
  refine r_aload_n h dL_law_1352 rfl ?_
  refine w_arg C 1 (by omega) dL_law_1353 dL_law_1354 dL_law_1356 (by decide) dL_law_1357 dL_law_1358 ?_
  refine r_callV h hMe (rest := []) (as := [k_i (xs (i + 1))]) (oc := .inl (k_mI v, σ2)) (j_X8_precedent la hla G _ 0 (xs (i + 1)) (v, σ2) e2) kl_L_187 dL_law_1359 rfl rfl rfl rfl rfl ⟨rfl, rfl, Nat.le_of_ble_eq_true rfl, Nat.le_of_ble_eq_true rfl, by show k + 2 + 0 ≤ 603072; omega, by show n + 12 + 0 ≤ 7198825; omega, Nat.le_of_ble_eq_true rfl⟩ (fun E q => by cases q) (fun r s q => ?_)
  cases q
  show k_W X _ _ _ _ _ [k_i v]
  exact w_tail C ⟨dL_law_1362, dL_law_1364, dL_law_1365, dL_law_1368, dL_law_1370, dL_law_1375, dL_law_1377, dL_law_1380, dL_law_1381, dL_law_1382, dL_law_1383, dL_law_1385, dL_law_1386, dL_law_1387, dL_law_1392, by decide⟩ hth hv ⟨by omega, by omega⟩ K2
theorem w_case_decide {X : k_X} {la : Launch} {G : k_G} {σ0 : k_S} {nm : String} {b Ln : Nat} {xs : Nat → Int32} (C : w_C X la G σ0 nm b Ln xs) {σ : k_S} {T k n i : Nat} (hI : q_I T σ σ) (hi : i + 6 ≤ Ln) (hk : k + 12 ≤ 603072) (hn : n + 958 ≤ 7198825)
    (K : ∀ (T : Nat) (σ2 : k_S) (k2 n2 : Nat), q_I T σ2 σ2 → k2 ≤ k + 12 → n2 ≤ n + 958 → k_W X σ2 k2 n2 2111 (w_L b i none none none) []) : k_W X σ k n 1395 (w_L b i none none none) [] := by
  obtain ⟨hla, h, hMe, hX, hbl, hbA, hLn⟩ := id C
  obtain ⟨kx, σ1, v, σ2, T2, e1, e2, hth, hv, hI2⟩ := g_decide hI (xs (i + 1))
  have K2 := K T2 σ2 (k + 6 + 0) (n + 619 + 0) hI2 (by omega) (by omega)
  refine r_aload_n h dL_law_1395 rfl ?_
  refine w_arg C 1 (by omega) dL_law_1396 dL_law_1397 dL_law_1399 (by decide) dL_law_1400 dL_law_1401 ?_
  refine r_aload_n h dL_law_1402 rfl ?_
  refine r_callSW h hMe (rest := []) (as := [k_p 0 0, k_i (xs (i + 1)), k_p 18 0]) (oc := .inl (k_mI kx, σ1)) (j_L_decide la hla G _ 0 (xs (i + 1)) 0 (kx, σ1) e1) kl_L_188 dL_law_1403 rfl rfl ⟨rfl, rfl, Nat.le_of_ble_eq_true rfl, Nat.le_of_ble_eq_true rfl, by show k + 6 ≤ 603072; omega, by show n + 619 ≤ 7198825; omega, Nat.le_of_ble_eq_true rfl⟩ (fun E q => by cases q) (fun r s q => ?_)
  cases q
  show k_W X _ _ _ _ _ [k_i kx]
  refine r_istore (L' := w_L b i (some (k_i kx)) none none) h dL_law_1406 (by decide) rfl ?_
  refine r_aload_n h dL_law_1408 rfl ?_
  refine w_arg C 1 (by omega) dL_law_1409 dL_law_1410 dL_law_1412 (by decide) dL_law_1413 dL_law_1414 ?_
  refine r_callV h hMe (rest := []) (as := [k_i (xs (i + 1))]) (oc := .inl (k_mI v, σ2)) (j_X8_decide la hla G _ 0 (xs (i + 1)) (v, σ2) e2) kl_L_190 dL_law_1415 rfl rfl rfl rfl rfl ⟨rfl, rfl, Nat.le_of_ble_eq_true rfl, Nat.le_of_ble_eq_true rfl, by show k + 6 + 0 ≤ 603072; omega, by show n + 619 + 0 ≤ 7198825; omega, Nat.le_of_ble_eq_true rfl⟩ (fun E q => by cases q) (fun r s q => ?_)
  cases q
  show k_W X _ _ _ _ _ [k_i v]
  exact w_tail C ⟨dL_law_1418, dL_law_1420, dL_law_1421, dL_law_1424, dL_law_1426, dL_law_1431, dL_law_1433, dL_law_1436, dL_law_1437, dL_law_1438, dL_law_1439, dL_law_1441, dL_law_1442, dL_law_1443, dL_law_1448, by decide⟩ hth hv ⟨by omega, by omega⟩ K2
theorem w_case_outcome {X : k_X} {la : Launch} {G : k_G} {σ0 : k_S} {nm : String} {b Ln : Nat} {xs : Nat → Int32} (C : w_C X la G σ0 nm b Ln xs) {σ : k_S} {T k n i : Nat} (hI : q_I T σ σ) (hi : i + 6 ≤ Ln) (hk : k + 12 ≤ 603072) (hn : n + 958 ≤ 7198825)
    (K : ∀ (T : Nat) (σ2 : k_S) (k2 n2 : Nat), q_I T σ2 σ2 → k2 ≤ k + 12 → n2 ≤ n + 958 → k_W X σ2 k2 n2 2111 (w_L b i none none none) []) : k_W X σ k n 1451 (w_L b i none none none) [] := by
  obtain ⟨hla, h, hMe, hX, hbl, hbA, hLn⟩ := id C
  obtain ⟨kx, σ1, v, σ2, T2, e1, e2, hth, hv, hI2⟩ := g_outcome hI (xs (i + 1))
  have K2 := K T2 σ2 (k + 2 + 0) (n + 12 + 0) hI2 (by omega) (by omega)
  refine r_aload_n h dL_law_1451 rfl ?_
  refine w_arg C 1 (by omega) dL_law_1452 dL_law_1453 dL_law_1455 (by decide) dL_law_1456 dL_law_1457 ?_
  refine r_aload_n h dL_law_1458 rfl ?_
  refine r_callSW h hMe (rest := []) (as := [k_p 0 0, k_i (xs (i + 1)), k_p 18 0]) (oc := .inl (k_mI kx, σ1)) (j_L_outcome la hla G _ 0 (xs (i + 1)) 0 (kx, σ1) e1) kl_L_191 dL_law_1459 rfl rfl ⟨rfl, rfl, Nat.le_of_ble_eq_true rfl, Nat.le_of_ble_eq_true rfl, by show k + 2 ≤ 603072; omega, by show n + 12 ≤ 7198825; omega, Nat.le_of_ble_eq_true rfl⟩ (fun E q => by cases q) (fun r s q => ?_)
  cases q
  show k_W X _ _ _ _ _ [k_i kx]
  refine r_istore (L' := w_L b i (some (k_i kx)) none none) h dL_law_1462 (by decide) rfl ?_
  refine r_aload_n h dL_law_1464 rfl ?_
  refine w_arg C 1 (by omega) dL_law_1465 dL_law_1466 dL_law_1468 (by decide) dL_law_1469 dL_law_1470 ?_
  refine r_callV h hMe (rest := []) (as := [k_i (xs (i + 1))]) (oc := .inl (k_mI v, σ2)) (j_X8_outcome la hla G _ 0 (xs (i + 1)) (v, σ2) e2) kl_L_193 dL_law_1471 rfl rfl rfl rfl rfl ⟨rfl, rfl, Nat.le_of_ble_eq_true rfl, Nat.le_of_ble_eq_true rfl, by show k + 2 + 0 ≤ 603072; omega, by show n + 12 + 0 ≤ 7198825; omega, Nat.le_of_ble_eq_true rfl⟩ (fun E q => by cases q) (fun r s q => ?_)
  cases q
  show k_W X _ _ _ _ _ [k_i v]
  exact w_tail C ⟨dL_law_1474, dL_law_1476, dL_law_1477, dL_law_1480, dL_law_1482, dL_law_1487, dL_law_1489, dL_law_1492, dL_law_1493, dL_law_1494, dL_law_1495, dL_law_1497, dL_law_1498, dL_law_1499, dL_law_1504, by decide⟩ hth hv ⟨by omega, by omega⟩ K2
theorem w_case_outcomeAnew {X : k_X} {la : Launch} {G : k_G} {σ0 : k_S} {nm : String} {b Ln : Nat} {xs : Nat → Int32} (C : w_C X la G σ0 nm b Ln xs) {σ : k_S} {T k n i : Nat} (hI : q_I T σ σ) (hi : i + 6 ≤ Ln) (hk : k + 12 ≤ 603072) (hn : n + 958 ≤ 7198825)
    (K : ∀ (T : Nat) (σ2 : k_S) (k2 n2 : Nat), q_I T σ2 σ2 → k2 ≤ k + 12 → n2 ≤ n + 958 → k_W X σ2 k2 n2 2111 (w_L b i none none none) []) : k_W X σ k n 1507 (w_L b i none none none) [] := by
  obtain ⟨hla, h, hMe, hX, hbl, hbA, hLn⟩ := id C
  obtain ⟨kx, σ1, v, σ2, T2, e1, e2, hth, hv, hI2⟩ := g_outcomeAnew hI (xs (i + 1))
  have K2 := K T2 σ2 (k + 2 + 0) (n + 12 + 0) hI2 (by omega) (by omega)
  refine r_aload_n h dL_law_1507 rfl ?_
  refine w_arg C 1 (by omega) dL_law_1508 dL_law_1509 dL_law_1511 (by decide) dL_law_1512 dL_law_1513 ?_
  refine r_aload_n h dL_law_1514 rfl ?_
  refine r_callSW h hMe (rest := []) (as := [k_p 0 0, k_i (xs (i + 1)), k_p 18 0]) (oc := .inl (k_mI kx, σ1)) (j_L_outcomeAnew la hla G _ 0 (xs (i + 1)) 0 (kx, σ1) e1) kl_L_194 dL_law_1515 rfl rfl ⟨rfl, rfl, Nat.le_of_ble_eq_true rfl, Nat.le_of_ble_eq_true rfl, by show k + 2 ≤ 603072; omega, by show n + 12 ≤ 7198825; omega, Nat.le_of_ble_eq_true rfl⟩ (fun E q => by cases q) (fun r s q => ?_)
  cases q
  show k_W X _ _ _ _ _ [k_i kx]
  refine r_istore (L' := w_L b i (some (k_i kx)) none none) h dL_law_1518 (by decide) rfl ?_
  refine r_aload_n h dL_law_1520 rfl ?_
  refine w_arg C 1 (by omega) dL_law_1521 dL_law_1522 dL_law_1524 (by decide) dL_law_1525 dL_law_1526 ?_
  refine r_callV h hMe (rest := []) (as := [k_i (xs (i + 1))]) (oc := .inl (k_mI v, σ2)) (j_X8_outcomeAnew la hla G _ 0 (xs (i + 1)) (v, σ2) e2) kl_L_196 dL_law_1527 rfl rfl rfl rfl rfl ⟨rfl, rfl, Nat.le_of_ble_eq_true rfl, Nat.le_of_ble_eq_true rfl, by show k + 2 + 0 ≤ 603072; omega, by show n + 12 + 0 ≤ 7198825; omega, Nat.le_of_ble_eq_true rfl⟩ (fun E q => by cases q) (fun r s q => ?_)
  cases q
  show k_W X _ _ _ _ _ [k_i v]
  exact w_tail C ⟨dL_law_1530, dL_law_1532, dL_law_1533, dL_law_1536, dL_law_1538, dL_law_1543, dL_law_1545, dL_law_1548, dL_law_1549, dL_law_1550, dL_law_1551, dL_law_1553, dL_law_1554, dL_law_1555, dL_law_1560, by decide⟩ hth hv ⟨by omega, by omega⟩ K2
theorem w_case_isByBot {X : k_X} {la : Launch} {G : k_G} {σ0 : k_S} {nm : String} {b Ln : Nat} {xs : Nat → Int32} (C : w_C X la G σ0 nm b Ln xs) {σ : k_S} {T k n i : Nat} (hI : q_I T σ σ) (hi : i + 6 ≤ Ln) (hk : k + 12 ≤ 603072) (hn : n + 958 ≤ 7198825)
    (K : ∀ (T : Nat) (σ2 : k_S) (k2 n2 : Nat), q_I T σ2 σ2 → k2 ≤ k + 12 → n2 ≤ n + 958 → k_W X σ2 k2 n2 2111 (w_L b i none none none) []) : k_W X σ k n 1563 (w_L b i none none none) [] := by
  obtain ⟨hla, h, hMe, hX, hbl, hbA, hLn⟩ := id C
  obtain ⟨kx, σ1, v, σ2, T2, e1, e2, hth, hv, h01, hI2⟩ := g_isByBot hI (xs (i + 1))
  have K2 := K T2 σ2 (k + 2 + 0) (n + 12 + 0) hI2 (by omega) (by omega)
  refine r_aload_n h dL_law_1563 rfl ?_
  refine w_arg C 1 (by omega) dL_law_1564 dL_law_1565 dL_law_1567 (by decide) dL_law_1568 dL_law_1569 ?_
  refine r_aload_n h dL_law_1570 rfl ?_
  refine r_callSW h hMe (rest := []) (as := [k_p 0 0, k_i (xs (i + 1)), k_p 18 0]) (oc := .inl (k_mI kx, σ1)) (j_L_isByBot la hla G _ 0 (xs (i + 1)) 0 (kx, σ1) e1) kl_L_197 dL_law_1571 rfl rfl ⟨rfl, rfl, Nat.le_of_ble_eq_true rfl, Nat.le_of_ble_eq_true rfl, by show k + 2 ≤ 603072; omega, by show n + 12 ≤ 7198825; omega, Nat.le_of_ble_eq_true rfl⟩ (fun E q => by cases q) (fun r s q => ?_)
  cases q
  show k_W X _ _ _ _ _ [k_i kx]
  refine r_istore (L' := w_L b i (some (k_i kx)) none none) h dL_law_1574 (by decide) rfl ?_
  refine r_aload_n h dL_law_1576 rfl ?_
  refine w_arg C 1 (by omega) dL_law_1577 dL_law_1578 dL_law_1580 (by decide) dL_law_1581 dL_law_1582 ?_
  refine r_callV h hMe (rest := []) (as := [k_i (xs (i + 1))]) (oc := .inl (k_mI v, σ2)) (j_X8_isByBot la hla G _ 0 (xs (i + 1)) (v, σ2) e2) kl_L_199 dL_law_1583 rfl rfl rfl rfl rfl ⟨rfl, rfl, Nat.le_of_ble_eq_true rfl, Nat.le_of_ble_eq_true rfl, by show k + 2 + 0 ≤ 603072; omega, by show n + 12 + 0 ≤ 7198825; omega, Nat.le_of_ble_eq_true rfl⟩ (fun E q => by cases q) (fun r s q => ?_)
  cases q
  show k_W X _ _ _ _ _ [k_i v]
  exact w_tailB C ⟨dL_law_1586, dL_law_1588, dL_law_1589, dL_law_1592, dL_law_1594, dL_law_1599, dL_law_1601, dL_law_1604, dL_law_1605, dL_law_1606, dL_law_1607, dL_law_1609, dL_law_1612, dL_law_1613, dL_law_1616, dL_law_1617, dL_law_1618, dL_law_1623, by decide⟩ hth hv h01 ⟨by omega, by omega⟩ K2
