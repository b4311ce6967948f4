theorem dX8_init_0 : decode cX8_init 0 = .ok (.aload_n 0, 1) := by decide +kernel
theorem dX8_init_1 : decode cX8_init 1 = .ok (.invokespecial 1, 3) := by decide +kernel
theorem dX8_init_4 : decode cX8_init 4 = .ok (.aload_n 0, 1) := by decide +kernel
theorem dX8_init_5 : decode cX8_init 5 = .ok (.bipush 12, 2) := by decide +kernel
theorem dX8_init_7 : decode cX8_init 7 = .ok (.newarray .int, 2) := by decide +kernel
theorem dX8_init_9 : decode cX8_init 9 = .ok (.putfield 9, 3) := by decide +kernel
theorem dX8_init_12 : decode cX8_init 12 = .ok (.aload_n 0, 1) := by decide +kernel
theorem dX8_init_13 : decode cX8_init 13 = .ok (.bipush 12, 2) := by decide +kernel
theorem dX8_init_15 : decode cX8_init 15 = .ok (.newarray .int, 2) := by decide +kernel
theorem dX8_init_17 : decode cX8_init 17 = .ok (.putfield 13, 3) := by decide +kernel
theorem dX8_init_20 : decode cX8_init 20 = .ok (.aload_n 0, 1) := by decide +kernel
theorem dX8_init_21 : decode cX8_init 21 = .ok (.bipush 12, 2) := by decide +kernel
theorem dX8_init_23 : decode cX8_init 23 = .ok (.newarray .int, 2) := by decide +kernel
theorem dX8_init_25 : decode cX8_init 25 = .ok (.putfield 16, 3) := by decide +kernel
theorem dX8_init_28 : decode cX8_init 28 = .ok (.aload_n 0, 1) := by decide +kernel
theorem dX8_init_29 : decode cX8_init 29 = .ok (.bipush 12, 2) := by decide +kernel
theorem dX8_init_31 : decode cX8_init 31 = .ok (.newarray .int, 2) := by decide +kernel
theorem dX8_init_33 : decode cX8_init 33 = .ok (.putfield 19, 3) := by decide +kernel
theorem dX8_init_36 : decode cX8_init 36 = .ok (.aload_n 0, 1) := by decide +kernel
theorem dX8_init_37 : decode cX8_init 37 = .ok (.bipush 12, 2) := by decide +kernel
theorem dX8_init_39 : decode cX8_init 39 = .ok (.newarray .int, 2) := by decide +kernel
theorem dX8_init_41 : decode cX8_init 41 = .ok (.putfield 22, 3) := by decide +kernel
theorem dX8_init_44 : decode cX8_init 44 = .ok (.aload_n 0, 1) := by decide +kernel
theorem dX8_init_45 : decode cX8_init 45 = .ok (.bipush 8, 2) := by decide +kernel
theorem dX8_init_47 : decode cX8_init 47 = .ok (.newarray .int, 2) := by decide +kernel
theorem dX8_init_49 : decode cX8_init 49 = .ok (.putfield 25, 3) := by decide +kernel
theorem dX8_init_52 : decode cX8_init 52 = .ok (.aload_n 0, 1) := by decide +kernel
theorem dX8_init_53 : decode cX8_init 53 = .ok (.iconst 4, 1) := by decide +kernel
theorem dX8_init_54 : decode cX8_init 54 = .ok (.newarray .int, 2) := by decide +kernel
theorem dX8_init_56 : decode cX8_init 56 = .ok (.putfield 28, 3) := by decide +kernel
theorem dX8_init_59 : decode cX8_init 59 = .ok (.aload_n 0, 1) := by decide +kernel
theorem dX8_init_60 : decode cX8_init 60 = .ok (.iconst 4, 1) := by decide +kernel
theorem dX8_init_61 : decode cX8_init 61 = .ok (.newarray .int, 2) := by decide +kernel
theorem dX8_init_63 : decode cX8_init 63 = .ok (.putfield 31, 3) := by decide +kernel
theorem dX8_init_66 : decode cX8_init 66 = .ok (.aload_n 0, 1) := by decide +kernel
theorem dX8_init_67 : decode cX8_init 67 = .ok (.bipush 12, 2) := by decide +kernel
theorem dX8_init_69 : decode cX8_init 69 = .ok (.newarray .boolean, 2) := by decide +kernel
theorem dX8_init_71 : decode cX8_init 71 = .ok (.putfield 34, 3) := by decide +kernel
theorem dX8_init_74 : decode cX8_init 74 = .ok (.aload_n 0, 1) := by decide +kernel
theorem dX8_init_75 : decode cX8_init 75 = .ok (.iconst 5, 1) := by decide +kernel
theorem dX8_init_76 : decode cX8_init 76 = .ok (.putfield 38, 3) := by decide +kernel
theorem dX8_init_79 : decode cX8_init 79 = .ok (.aload_n 0, 1) := by decide +kernel
theorem dX8_init_80 : decode cX8_init 80 = .ok (.bipush 20, 2) := by decide +kernel
theorem dX8_init_82 : decode cX8_init 82 = .ok (.newarray .int, 2) := by decide +kernel
theorem dX8_init_84 : decode cX8_init 84 = .ok (.putfield 42, 3) := by decide +kernel
theorem dX8_init_87 : decode cX8_init 87 = .ok (.aload_n 0, 1) := by decide +kernel
theorem dX8_init_88 : decode cX8_init 88 = .ok (.bipush 20, 2) := by decide +kernel
theorem dX8_init_90 : decode cX8_init 90 = .ok (.newarray .int, 2) := by decide +kernel
theorem dX8_init_92 : decode cX8_init 92 = .ok (.putfield 45, 3) := by decide +kernel
theorem dX8_init_95 : decode cX8_init 95 = .ok (.aload_n 0, 1) := by decide +kernel
theorem dX8_init_96 : decode cX8_init 96 = .ok (.bipush 20, 2) := by decide +kernel
theorem dX8_init_98 : decode cX8_init 98 = .ok (.newarray .int, 2) := by decide +kernel
theorem dX8_init_100 : decode cX8_init 100 = .ok (.putfield 48, 3) := by decide +kernel
theorem dX8_init_103 : decode cX8_init 103 = .ok (.aload_n 0, 1) := by decide +kernel
theorem dX8_init_104 : decode cX8_init 104 = .ok (.bipush 20, 2) := by decide +kernel
theorem dX8_init_106 : decode cX8_init 106 = .ok (.newarray .int, 2) := by decide +kernel
theorem dX8_init_108 : decode cX8_init 108 = .ok (.putfield 51, 3) := by decide +kernel
theorem dX8_init_111 : decode cX8_init 111 = .ok (.aload_n 0, 1) := by decide +kernel
theorem dX8_init_112 : decode cX8_init 112 = .ok (.bipush 20, 2) := by decide +kernel
theorem dX8_init_114 : decode cX8_init 114 = .ok (.newarray .int, 2) := by decide +kernel
theorem dX8_init_116 : decode cX8_init 116 = .ok (.putfield 54, 3) := by decide +kernel
theorem dX8_init_119 : decode cX8_init 119 = .ok (.aload_n 0, 1) := by decide +kernel
theorem dX8_init_120 : decode cX8_init 120 = .ok (.bipush 20, 2) := by decide +kernel
theorem dX8_init_122 : decode cX8_init 122 = .ok (.newarray .int, 2) := by decide +kernel
theorem dX8_init_124 : decode cX8_init 124 = .ok (.putfield 57, 3) := by decide +kernel
theorem dX8_init_127 : decode cX8_init 127 = .ok (.aload_n 0, 1) := by decide +kernel
theorem dX8_init_128 : decode cX8_init 128 = .ok (.bipush 20, 2) := by decide +kernel
theorem dX8_init_130 : decode cX8_init 130 = .ok (.newarray .int, 2) := by decide +kernel
theorem dX8_init_132 : decode cX8_init 132 = .ok (.putfield 60, 3) := by decide +kernel
theorem dX8_init_135 : decode cX8_init 135 = .ok (.aload_n 0, 1) := by decide +kernel
theorem dX8_init_136 : decode cX8_init 136 = .ok (.bipush 20, 2) := by decide +kernel
theorem dX8_init_138 : decode cX8_init 138 = .ok (.newarray .int, 2) := by decide +kernel
theorem dX8_init_140 : decode cX8_init 140 = .ok (.putfield 63, 3) := by decide +kernel
theorem dX8_init_143 : decode cX8_init 143 = .ok (.aload_n 0, 1) := by decide +kernel
theorem dX8_init_144 : decode cX8_init 144 = .ok (.bipush 20, 2) := by decide +kernel
theorem dX8_init_146 : decode cX8_init 146 = .ok (.newarray .int, 2) := by decide +kernel
theorem dX8_init_148 : decode cX8_init 148 = .ok (.putfield 66, 3) := by decide +kernel
theorem dX8_init_151 : decode cX8_init 151 = .ok (.aload_n 0, 1) := by decide +kernel
theorem dX8_init_152 : decode cX8_init 152 = .ok (.bipush 20, 2) := by decide +kernel
theorem dX8_init_154 : decode cX8_init 154 = .ok (.newarray .char, 2) := by decide +kernel
theorem dX8_init_156 : decode cX8_init 156 = .ok (.putfield 69, 3) := by decide +kernel
theorem dX8_init_159 : decode cX8_init 159 = .ok (.aload_n 0, 1) := by decide +kernel
theorem dX8_init_160 : decode cX8_init 160 = .ok (.bipush 20, 2) := by decide +kernel
theorem dX8_init_162 : decode cX8_init 162 = .ok (.newarray .char, 2) := by decide +kernel
theorem dX8_init_164 : decode cX8_init 164 = .ok (.putfield 73, 3) := by decide +kernel
theorem dX8_init_167 : decode cX8_init 167 = .ok (.aload_n 0, 1) := by decide +kernel
theorem dX8_init_168 : decode cX8_init 168 = .ok (.bipush 20, 2) := by decide +kernel
theorem dX8_init_170 : decode cX8_init 170 = .ok (.newarray .char, 2) := by decide +kernel
theorem dX8_init_172 : decode cX8_init 172 = .ok (.putfield 76, 3) := by decide +kernel
theorem dX8_init_175 : decode cX8_init 175 = .ok (.aload_n 0, 1) := by decide +kernel
theorem dX8_init_176 : decode cX8_init 176 = .ok (.bipush 20, 2) := by decide +kernel
theorem dX8_init_178 : decode cX8_init 178 = .ok (.bipush 8, 2) := by decide +kernel
theorem dX8_init_180 : decode cX8_init 180 = .ok (.multianewarray 79 2, 4) := by decide +kernel
theorem dX8_init_184 : decode cX8_init 184 = .ok (.putfield 81, 3) := by decide +kernel
theorem dX8_init_187 : decode cX8_init 187 = .ok (.return_, 1) := by decide +kernel
theorem dX8_thrown_0 : decode cX8_thrown 0 = .ok (.aload_n 0, 1) := by decide +kernel
theorem dX8_thrown_1 : decode cX8_thrown 1 = .ok (.getfield 84, 3) := by decide +kernel
theorem dX8_thrown_4 : decode cX8_thrown 4 = .ok (.ireturn, 1) := by decide +kernel
theorem dX8_fails_0 : decode cX8_fails 0 = .ok (.aload_n 0, 1) := by decide +kernel
theorem dX8_fails_1 : decode cX8_fails 1 = .ok (.iload_n 1, 1) := by decide +kernel
theorem dX8_fails_2 : decode cX8_fails 2 = .ok (.putfield 84, 3) := by decide +kernel
theorem dX8_fails_5 : decode cX8_fails 5 = .ok (.iconst 0, 1) := by decide +kernel
theorem dX8_fails_6 : decode cX8_fails 6 = .ok (.ireturn, 1) := by decide +kernel
theorem dX8_isBetween_0 : decode cX8_isBetween 0 = .ok (.iload_n 1, 1) := by decide +kernel
theorem dX8_isBetween_1 : decode cX8_isBetween 1 = .ok (.iload_n 0, 1) := by decide +kernel
theorem dX8_isBetween_2 : decode cX8_isBetween 2 = .ok (.if_icmp .gt 12, 3) := by decide +kernel
theorem dX8_isBetween_5 : decode cX8_isBetween 5 = .ok (.iload_n 0, 1) := by decide +kernel
theorem dX8_isBetween_6 : decode cX8_isBetween 6 = .ok (.iload_n 2, 1) := by decide +kernel
theorem dX8_isBetween_7 : decode cX8_isBetween 7 = .ok (.if_icmp .gt 7, 3) := by decide +kernel
theorem dX8_isBetween_10 : decode cX8_isBetween 10 = .ok (.iconst 1, 1) := by decide +kernel
theorem dX8_isBetween_11 : decode cX8_isBetween 11 = .ok (.goto 4, 3) := by decide +kernel
theorem dX8_isBetween_14 : decode cX8_isBetween 14 = .ok (.iconst 0, 1) := by decide +kernel
theorem dX8_isBetween_15 : decode cX8_isBetween 15 = .ok (.ireturn, 1) := by decide +kernel
theorem dX8_isRule_0 : decode cX8_isRule 0 = .ok (.iload_n 1, 1) := by decide +kernel
theorem dX8_isRule_1 : decode cX8_isRule 1 = .ok (.iconst 0, 1) := by decide +kernel
theorem dX8_isRule_2 : decode cX8_isRule 2 = .ok (.aload_n 0, 1) := by decide +kernel
theorem dX8_isRule_3 : decode cX8_isRule 3 = .ok (.getfield 87, 3) := by decide +kernel
theorem dX8_isRule_6 : decode cX8_isRule 6 = .ok (.iconst 1, 1) := by decide +kernel
theorem dX8_isRule_7 : decode cX8_isRule 7 = .ok (.isub, 1) := by decide +kernel
theorem dX8_isRule_8 : decode cX8_isRule 8 = .ok (.invokestatic 90, 3) := by decide +kernel
theorem dX8_isRule_11 : decode cX8_isRule 11 = .ok (.ireturn, 1) := by decide +kernel
theorem dX8_isUser_0 : decode cX8_isUser 0 = .ok (.iload_n 1, 1) := by decide +kernel
theorem dX8_isUser_1 : decode cX8_isUser 1 = .ok (.iconst 0, 1) := by decide +kernel
theorem dX8_isUser_2 : decode cX8_isUser 2 = .ok (.aload_n 0, 1) := by decide +kernel
theorem dX8_isUser_3 : decode cX8_isUser 3 = .ok (.getfield 94, 3) := by decide +kernel
theorem dX8_isUser_6 : decode cX8_isUser 6 = .ok (.iconst 1, 1) := by decide +kernel
theorem dX8_isUser_7 : decode cX8_isUser 7 = .ok (.isub, 1) := by decide +kernel
theorem dX8_isUser_8 : decode cX8_isUser 8 = .ok (.invokestatic 90, 3) := by decide +kernel
theorem dX8_isUser_11 : decode cX8_isUser 11 = .ok (.ireturn, 1) := by decide +kernel
theorem dX8_isReport_0 : decode cX8_isReport 0 = .ok (.iload_n 1, 1) := by decide +kernel
theorem dX8_isReport_1 : decode cX8_isReport 1 = .ok (.iconst 0, 1) := by decide +kernel
theorem dX8_isReport_2 : decode cX8_isReport 2 = .ok (.aload_n 0, 1) := by decide +kernel
theorem dX8_isReport_3 : decode cX8_isReport 3 = .ok (.getfield 97, 3) := by decide +kernel
theorem dX8_isReport_6 : decode cX8_isReport 6 = .ok (.iconst 1, 1) := by decide +kernel
theorem dX8_isReport_7 : decode cX8_isReport 7 = .ok (.isub, 1) := by decide +kernel
theorem dX8_isReport_8 : decode cX8_isReport 8 = .ok (.invokestatic 90, 3) := by decide +kernel
theorem dX8_isReport_11 : decode cX8_isReport 11 = .ok (.ireturn, 1) := by decide +kernel
theorem dX8_addRule_0 : decode cX8_addRule 0 = .ok (.aload_n 0, 1) := by decide +kernel
theorem dX8_addRule_1 : decode cX8_addRule 1 = .ok (.iconst 0, 1) := by decide +kernel
theorem dX8_addRule_2 : decode cX8_addRule 2 = .ok (.putfield 84, 3) := by decide +kernel
theorem dX8_addRule_5 : decode cX8_addRule 5 = .ok (.iload_n 1, 1) := by decide +kernel
theorem dX8_addRule_6 : decode cX8_addRule 6 = .ok (.iconst 0, 1) := by decide +kernel
theorem dX8_addRule_7 : decode cX8_addRule 7 = .ok (.bipush 7, 2) := by decide +kernel
theorem dX8_addRule_9 : decode cX8_addRule 9 = .ok (.invokestatic 90, 3) := by decide +kernel
theorem dX8_addRule_12 : decode cX8_addRule 12 = .ok (.ifCond .eq 41, 3) := by decide +kernel
theorem dX8_addRule_15 : decode cX8_addRule 15 = .ok (.iload_n 3, 1) := by decide +kernel
theorem dX8_addRule_16 : decode cX8_addRule 16 = .ok (.iconst 0, 1) := by decide +kernel
theorem dX8_addRule_17 : decode cX8_addRule 17 = .ok (.bipush 9, 2) := by decide +kernel
theorem dX8_addRule_19 : decode cX8_addRule 19 = .ok (.invokestatic 90, 3) := by decide +kernel
theorem dX8_addRule_22 : decode cX8_addRule 22 = .ok (.ifCond .eq 31, 3) := by decide +kernel
theorem dX8_addRule_25 : decode cX8_addRule 25 = .ok (.iload 4, 2) := by decide +kernel
theorem dX8_addRule_27 : decode cX8_addRule 27 = .ok (.iconst 1, 1) := by decide +kernel
theorem dX8_addRule_28 : decode cX8_addRule 28 = .ok (.bipush 60, 2) := by decide +kernel
theorem dX8_addRule_30 : decode cX8_addRule 30 = .ok (.invokestatic 90, 3) := by decide +kernel
theorem dX8_addRule_33 : decode cX8_addRule 33 = .ok (.ifCond .eq 20, 3) := by decide +kernel
theorem dX8_addRule_36 : decode cX8_addRule 36 = .ok (.iload 5, 2) := by decide +kernel
theorem dX8_addRule_38 : decode cX8_addRule 38 = .ok (.aload_n 0, 1) := by decide +kernel
theorem dX8_addRule_39 : decode cX8_addRule 39 = .ok (.getfield 100, 3) := by decide +kernel
theorem dX8_addRule_42 : decode cX8_addRule 42 = .ok (.iconst 1, 1) := by decide +kernel
theorem dX8_addRule_43 : decode cX8_addRule 43 = .ok (.iadd, 1) := by decide +kernel
theorem dX8_addRule_44 : decode cX8_addRule 44 = .ok (.sipush 1000, 3) := by decide +kernel
theorem dX8_addRule_47 : decode cX8_addRule 47 = .ok (.invokestatic 90, 3) := by decide +kernel
theorem dX8_addRule_50 : decode cX8_addRule 50 = .ok (.ifCond .ne 9, 3) := by decide +kernel
theorem dX8_addRule_53 : decode cX8_addRule 53 = .ok (.aload_n 0, 1) := by decide +kernel
theorem dX8_addRule_54 : decode cX8_addRule 54 = .ok (.iconst 1, 1) := by decide +kernel
theorem dX8_addRule_55 : decode cX8_addRule 55 = .ok (.invokevirtual 103, 3) := by decide +kernel
theorem dX8_addRule_58 : decode cX8_addRule 58 = .ok (.ireturn, 1) := by decide +kernel
theorem dX8_addRule_59 : decode cX8_addRule 59 = .ok (.aload_n 0, 1) := by decide +kernel
theorem dX8_addRule_60 : decode cX8_addRule 60 = .ok (.getfield 87, 3) := by decide +kernel
theorem dX8_addRule_63 : decode cX8_addRule 63 = .ok (.bipush 12, 2) := by decide +kernel
theorem dX8_addRule_65 : decode cX8_addRule 65 = .ok (.if_icmp .ne 9, 3) := by decide +kernel
theorem dX8_addRule_68 : decode cX8_addRule 68 = .ok (.aload_n 0, 1) := by decide +kernel
theorem dX8_addRule_69 : decode cX8_addRule 69 = .ok (.iconst 2, 1) := by decide +kernel
theorem dX8_addRule_70 : decode cX8_addRule 70 = .ok (.invokevirtual 103, 3) := by decide +kernel
theorem dX8_addRule_73 : decode cX8_addRule 73 = .ok (.ireturn, 1) := by decide +kernel
theorem dX8_addRule_74 : decode cX8_addRule 74 = .ok (.aload_n 0, 1) := by decide +kernel
theorem dX8_addRule_75 : decode cX8_addRule 75 = .ok (.getfield 9, 3) := by decide +kernel
theorem dX8_addRule_78 : decode cX8_addRule 78 = .ok (.aload_n 0, 1) := by decide +kernel
theorem dX8_addRule_79 : decode cX8_addRule 79 = .ok (.getfield 87, 3) := by decide +kernel
theorem dX8_addRule_82 : decode cX8_addRule 82 = .ok (.iload_n 1, 1) := by decide +kernel
theorem dX8_addRule_83 : decode cX8_addRule 83 = .ok (.iastore, 1) := by decide +kernel
theorem dX8_addRule_84 : decode cX8_addRule 84 = .ok (.aload_n 0, 1) := by decide +kernel
theorem dX8_addRule_85 : decode cX8_addRule 85 = .ok (.getfield 34, 3) := by decide +kernel
theorem dX8_addRule_88 : decode cX8_addRule 88 = .ok (.aload_n 0, 1) := by decide +kernel
theorem dX8_addRule_89 : decode cX8_addRule 89 = .ok (.getfield 87, 3) := by decide +kernel
theorem dX8_addRule_92 : decode cX8_addRule 92 = .ok (.iload_n 2, 1) := by decide +kernel
theorem dX8_addRule_93 : decode cX8_addRule 93 = .ok (.bastore, 1) := by decide +kernel
theorem dX8_addRule_94 : decode cX8_addRule 94 = .ok (.aload_n 0, 1) := by decide +kernel
theorem dX8_addRule_95 : decode cX8_addRule 95 = .ok (.getfield 13, 3) := by decide +kernel
theorem dX8_addRule_98 : decode cX8_addRule 98 = .ok (.aload_n 0, 1) := by decide +kernel
theorem dX8_addRule_99 : decode cX8_addRule 99 = .ok (.getfield 87, 3) := by decide +kernel
theorem dX8_addRule_102 : decode cX8_addRule 102 = .ok (.iload_n 3, 1) := by decide +kernel
theorem dX8_addRule_103 : decode cX8_addRule 103 = .ok (.iastore, 1) := by decide +kernel
theorem dX8_addRule_104 : decode cX8_addRule 104 = .ok (.aload_n 0, 1) := by decide +kernel
theorem dX8_addRule_105 : decode cX8_addRule 105 = .ok (.getfield 16, 3) := by decide +kernel
theorem dX8_addRule_108 : decode cX8_addRule 108 = .ok (.aload_n 0, 1) := by decide +kernel
theorem dX8_addRule_109 : decode cX8_addRule 109 = .ok (.getfield 87, 3) := by decide +kernel
theorem dX8_addRule_112 : decode cX8_addRule 112 = .ok (.iload 4, 2) := by decide +kernel
theorem dX8_addRule_114 : decode cX8_addRule 114 = .ok (.iastore, 1) := by decide +kernel
theorem dX8_addRule_115 : decode cX8_addRule 115 = .ok (.aload_n 0, 1) := by decide +kernel
theorem dX8_addRule_116 : decode cX8_addRule 116 = .ok (.getfield 19, 3) := by decide +kernel
theorem dX8_addRule_119 : decode cX8_addRule 119 = .ok (.aload_n 0, 1) := by decide +kernel
theorem dX8_addRule_120 : decode cX8_addRule 120 = .ok (.getfield 87, 3) := by decide +kernel
theorem dX8_addRule_123 : decode cX8_addRule 123 = .ok (.iload 5, 2) := by decide +kernel
theorem dX8_addRule_125 : decode cX8_addRule 125 = .ok (.iastore, 1) := by decide +kernel
theorem dX8_addRule_126 : decode cX8_addRule 126 = .ok (.aload_n 0, 1) := by decide +kernel
theorem dX8_addRule_127 : decode cX8_addRule 127 = .ok (.getfield 22, 3) := by decide +kernel
theorem dX8_addRule_130 : decode cX8_addRule 130 = .ok (.aload_n 0, 1) := by decide +kernel
theorem dX8_addRule_131 : decode cX8_addRule 131 = .ok (.getfield 87, 3) := by decide +kernel
theorem dX8_addRule_134 : decode cX8_addRule 134 = .ok (.ldc 109, 2) := by decide +kernel
theorem dX8_addRule_136 : decode cX8_addRule 136 = .ok (.iastore, 1) := by decide +kernel
theorem dX8_addRule_137 : decode cX8_addRule 137 = .ok (.aload_n 0, 1) := by decide +kernel
theorem dX8_addRule_138 : decode cX8_addRule 138 = .ok (.dup, 1) := by decide +kernel
theorem dX8_addRule_139 : decode cX8_addRule 139 = .ok (.getfield 87, 3) := by decide +kernel
theorem dX8_addRule_142 : decode cX8_addRule 142 = .ok (.iconst 1, 1) := by decide +kernel
theorem dX8_addRule_143 : decode cX8_addRule 143 = .ok (.iadd, 1) := by decide +kernel
theorem dX8_addRule_144 : decode cX8_addRule 144 = .ok (.putfield 87, 3) := by decide +kernel
theorem dX8_addRule_147 : decode cX8_addRule 147 = .ok (.aload_n 0, 1) := by decide +kernel
theorem dX8_addRule_148 : decode cX8_addRule 148 = .ok (.getfield 87, 3) := by decide +kernel
theorem dX8_addRule_151 : decode cX8_addRule 151 = .ok (.iconst 1, 1) := by decide +kernel
theorem dX8_addRule_152 : decode cX8_addRule 152 = .ok (.isub, 1) := by decide +kernel
theorem dX8_addRule_153 : decode cX8_addRule 153 = .ok (.ireturn, 1) := by decide +kernel
theorem dX8_inForce_0 : decode cX8_inForce 0 = .ok (.aload_n 0, 1) := by decide +kernel
theorem dX8_inForce_1 : decode cX8_inForce 1 = .ok (.getfield 19, 3) := by decide +kernel
theorem dX8_inForce_4 : decode cX8_inForce 4 = .ok (.iload_n 1, 1) := by decide +kernel
theorem dX8_inForce_5 : decode cX8_inForce 5 = .ok (.iaload, 1) := by decide +kernel
theorem dX8_inForce_6 : decode cX8_inForce 6 = .ok (.iload_n 2, 1) := by decide +kernel
theorem dX8_inForce_7 : decode cX8_inForce 7 = .ok (.if_icmp .gt 17, 3) := by decide +kernel
theorem dX8_inForce_10 : decode cX8_inForce 10 = .ok (.iload_n 2, 1) := by decide +kernel
theorem dX8_inForce_11 : decode cX8_inForce 11 = .ok (.aload_n 0, 1) := by decide +kernel
theorem dX8_inForce_12 : decode cX8_inForce 12 = .ok (.getfield 22, 3) := by decide +kernel
theorem dX8_inForce_15 : decode cX8_inForce 15 = .ok (.iload_n 1, 1) := by decide +kernel
theorem dX8_inForce_16 : decode cX8_inForce 16 = .ok (.iaload, 1) := by decide +kernel
theorem dX8_inForce_17 : decode cX8_inForce 17 = .ok (.if_icmp .ge 7, 3) := by decide +kernel
theorem dX8_inForce_20 : decode cX8_inForce 20 = .ok (.iconst 1, 1) := by decide +kernel
theorem dX8_inForce_21 : decode cX8_inForce 21 = .ok (.goto 4, 3) := by decide +kernel
theorem dX8_inForce_24 : decode cX8_inForce 24 = .ok (.iconst 0, 1) := by decide +kernel
theorem dX8_inForce_25 : decode cX8_inForce 25 = .ok (.ireturn, 1) := by decide +kernel
theorem dX8_repeal_0 : decode cX8_repeal 0 = .ok (.aload_n 0, 1) := by decide +kernel
theorem dX8_repeal_1 : decode cX8_repeal 1 = .ok (.iconst 0, 1) := by decide +kernel
theorem dX8_repeal_2 : decode cX8_repeal 2 = .ok (.putfield 84, 3) := by decide +kernel
theorem dX8_repeal_5 : decode cX8_repeal 5 = .ok (.aload_n 0, 1) := by decide +kernel
theorem dX8_repeal_6 : decode cX8_repeal 6 = .ok (.iload_n 1, 1) := by decide +kernel
theorem dX8_repeal_7 : decode cX8_repeal 7 = .ok (.invokevirtual 110, 3) := by decide +kernel
theorem dX8_repeal_10 : decode cX8_repeal 10 = .ok (.ifCond .ne 9, 3) := by decide +kernel
theorem dX8_repeal_13 : decode cX8_repeal 13 = .ok (.aload_n 0, 1) := by decide +kernel
theorem dX8_repeal_14 : decode cX8_repeal 14 = .ok (.iconst 1, 1) := by decide +kernel
theorem dX8_repeal_15 : decode cX8_repeal 15 = .ok (.invokevirtual 103, 3) := by decide +kernel
theorem dX8_repeal_18 : decode cX8_repeal 18 = .ok (.ireturn, 1) := by decide +kernel
theorem dX8_repeal_19 : decode cX8_repeal 19 = .ok (.iload_n 2, 1) := by decide +kernel
theorem dX8_repeal_20 : decode cX8_repeal 20 = .ok (.aload_n 0, 1) := by decide +kernel
theorem dX8_repeal_21 : decode cX8_repeal 21 = .ok (.getfield 100, 3) := by decide +kernel
theorem dX8_repeal_24 : decode cX8_repeal 24 = .ok (.aload_n 0, 1) := by decide +kernel
theorem dX8_repeal_25 : decode cX8_repeal 25 = .ok (.getfield 19, 3) := by decide +kernel
theorem dX8_repeal_28 : decode cX8_repeal 28 = .ok (.iload_n 1, 1) := by decide +kernel
theorem dX8_repeal_29 : decode cX8_repeal 29 = .ok (.iaload, 1) := by decide +kernel
theorem dX8_repeal_30 : decode cX8_repeal 30 = .ok (.invokestatic 114, 3) := by decide +kernel
theorem dX8_repeal_33 : decode cX8_repeal 33 = .ok (.iconst 1, 1) := by decide +kernel
theorem dX8_repeal_34 : decode cX8_repeal 34 = .ok (.iadd, 1) := by decide +kernel
theorem dX8_repeal_35 : decode cX8_repeal 35 = .ok (.sipush 1000, 3) := by decide +kernel
theorem dX8_repeal_38 : decode cX8_repeal 38 = .ok (.invokestatic 90, 3) := by decide +kernel
theorem dX8_repeal_41 : decode cX8_repeal 41 = .ok (.ifCond .ne 9, 3) := by decide +kernel
theorem dX8_repeal_44 : decode cX8_repeal 44 = .ok (.aload_n 0, 1) := by decide +kernel
theorem dX8_repeal_45 : decode cX8_repeal 45 = .ok (.iconst 2, 1) := by decide +kernel
theorem dX8_repeal_46 : decode cX8_repeal 46 = .ok (.invokevirtual 103, 3) := by decide +kernel
theorem dX8_repeal_49 : decode cX8_repeal 49 = .ok (.ireturn, 1) := by decide +kernel
theorem dX8_repeal_50 : decode cX8_repeal 50 = .ok (.aload_n 0, 1) := by decide +kernel
theorem dX8_repeal_51 : decode cX8_repeal 51 = .ok (.getfield 22, 3) := by decide +kernel
theorem dX8_repeal_54 : decode cX8_repeal 54 = .ok (.iload_n 1, 1) := by decide +kernel
theorem dX8_repeal_55 : decode cX8_repeal 55 = .ok (.iaload, 1) := by decide +kernel
theorem dX8_repeal_56 : decode cX8_repeal 56 = .ok (.sipush 1000, 3) := by decide +kernel
theorem dX8_repeal_59 : decode cX8_repeal 59 = .ok (.if_icmp .gt 9, 3) := by decide +kernel
theorem dX8_repeal_62 : decode cX8_repeal 62 = .ok (.aload_n 0, 1) := by decide +kernel
theorem dX8_repeal_63 : decode cX8_repeal 63 = .ok (.iconst 3, 1) := by decide +kernel
theorem dX8_repeal_64 : decode cX8_repeal 64 = .ok (.invokevirtual 103, 3) := by decide +kernel
theorem dX8_repeal_67 : decode cX8_repeal 67 = .ok (.ireturn, 1) := by decide +kernel
theorem dX8_repeal_68 : decode cX8_repeal 68 = .ok (.aload_n 0, 1) := by decide +kernel
theorem dX8_repeal_69 : decode cX8_repeal 69 = .ok (.getfield 22, 3) := by decide +kernel
theorem dX8_repeal_72 : decode cX8_repeal 72 = .ok (.iload_n 1, 1) := by decide +kernel
theorem dX8_repeal_73 : decode cX8_repeal 73 = .ok (.iload_n 2, 1) := by decide +kernel
theorem dX8_repeal_74 : decode cX8_repeal 74 = .ok (.iastore, 1) := by decide +kernel
theorem dX8_repeal_75 : decode cX8_repeal 75 = .ok (.iconst 0, 1) := by decide +kernel
theorem dX8_repeal_76 : decode cX8_repeal 76 = .ok (.istore_n 3, 1) := by decide +kernel
theorem dX8_repeal_77 : decode cX8_repeal 77 = .ok (.iconst 0, 1) := by decide +kernel
theorem dX8_repeal_78 : decode cX8_repeal 78 = .ok (.istore 4, 2) := by decide +kernel
theorem dX8_repeal_80 : decode cX8_repeal 80 = .ok (.iload 4, 2) := by decide +kernel
theorem dX8_repeal_82 : decode cX8_repeal 82 = .ok (.aload_n 0, 1) := by decide +kernel
theorem dX8_repeal_83 : decode cX8_repeal 83 = .ok (.getfield 87, 3) := by decide +kernel
theorem dX8_repeal_86 : decode cX8_repeal 86 = .ok (.if_icmp .ge 27, 3) := by decide +kernel
theorem dX8_repeal_89 : decode cX8_repeal 89 = .ok (.iload_n 3, 1) := by decide +kernel
theorem dX8_repeal_90 : decode cX8_repeal 90 = .ok (.aload_n 0, 1) := by decide +kernel
theorem dX8_repeal_91 : decode cX8_repeal 91 = .ok (.iload 4, 2) := by decide +kernel
theorem dX8_repeal_93 : decode cX8_repeal 93 = .ok (.iload_n 2, 1) := by decide +kernel
theorem dX8_repeal_94 : decode cX8_repeal 94 = .ok (.invokevirtual 120, 3) := by decide +kernel
theorem dX8_repeal_97 : decode cX8_repeal 97 = .ok (.ifCond .eq 7, 3) := by decide +kernel
theorem dX8_repeal_100 : decode cX8_repeal 100 = .ok (.iconst 1, 1) := by decide +kernel
theorem dX8_repeal_101 : decode cX8_repeal 101 = .ok (.goto 4, 3) := by decide +kernel
theorem dX8_repeal_104 : decode cX8_repeal 104 = .ok (.iconst 0, 1) := by decide +kernel
theorem dX8_repeal_105 : decode cX8_repeal 105 = .ok (.iadd, 1) := by decide +kernel
theorem dX8_repeal_106 : decode cX8_repeal 106 = .ok (.istore_n 3, 1) := by decide +kernel
theorem dX8_repeal_107 : decode cX8_repeal 107 = .ok (.iinc 4 1, 3) := by decide +kernel
theorem dX8_repeal_110 : decode cX8_repeal 110 = .ok (.goto (-30), 3) := by decide +kernel
theorem dX8_repeal_113 : decode cX8_repeal 113 = .ok (.iload_n 3, 1) := by decide +kernel
theorem dX8_repeal_114 : decode cX8_repeal 114 = .ok (.ireturn, 1) := by decide +kernel
theorem dX8_isInForce_0 : decode cX8_isInForce 0 = .ok (.aload_n 0, 1) := by decide +kernel
theorem dX8_isInForce_1 : decode cX8_isInForce 1 = .ok (.aload_n 0, 1) := by decide +kernel
theorem dX8_isInForce_2 : decode cX8_isInForce 2 = .ok (.iload_n 1, 1) := by decide +kernel
theorem dX8_isInForce_3 : decode cX8_isInForce 3 = .ok (.invokevirtual 110, 3) := by decide +kernel
theorem dX8_isInForce_6 : decode cX8_isInForce 6 = .ok (.ifCond .ne 7, 3) := by decide +kernel
theorem dX8_isInForce_9 : decode cX8_isInForce 9 = .ok (.iconst 1, 1) := by decide +kernel
theorem dX8_isInForce_10 : decode cX8_isInForce 10 = .ok (.goto 19, 3) := by decide +kernel
theorem dX8_isInForce_13 : decode cX8_isInForce 13 = .ok (.iload_n 2, 1) := by decide +kernel
theorem dX8_isInForce_14 : decode cX8_isInForce 14 = .ok (.iconst 0, 1) := by decide +kernel
theorem dX8_isInForce_15 : decode cX8_isInForce 15 = .ok (.sipush 1000, 3) := by decide +kernel
theorem dX8_isInForce_18 : decode cX8_isInForce 18 = .ok (.invokestatic 90, 3) := by decide +kernel
theorem dX8_isInForce_21 : decode cX8_isInForce 21 = .ok (.ifCond .eq 7, 3) := by decide +kernel
theorem dX8_isInForce_24 : decode cX8_isInForce 24 = .ok (.iconst 0, 1) := by decide +kernel
theorem dX8_isInForce_25 : decode cX8_isInForce 25 = .ok (.goto 4, 3) := by decide +kernel
theorem dX8_isInForce_28 : decode cX8_isInForce 28 = .ok (.iconst 2, 1) := by decide +kernel
theorem dX8_isInForce_29 : decode cX8_isInForce 29 = .ok (.putfield 84, 3) := by decide +kernel
theorem dX8_isInForce_32 : decode cX8_isInForce 32 = .ok (.aload_n 0, 1) := by decide +kernel
theorem dX8_isInForce_33 : decode cX8_isInForce 33 = .ok (.getfield 84, 3) := by decide +kernel
theorem dX8_isInForce_36 : decode cX8_isInForce 36 = .ok (.ifCond .ne 16, 3) := by decide +kernel
theorem dX8_isInForce_39 : decode cX8_isInForce 39 = .ok (.aload_n 0, 1) := by decide +kernel
theorem dX8_isInForce_40 : decode cX8_isInForce 40 = .ok (.iload_n 1, 1) := by decide +kernel
theorem dX8_isInForce_41 : decode cX8_isInForce 41 = .ok (.iload_n 2, 1) := by decide +kernel
theorem dX8_isInForce_42 : decode cX8_isInForce 42 = .ok (.invokevirtual 120, 3) := by decide +kernel
theorem dX8_isInForce_45 : decode cX8_isInForce 45 = .ok (.ifCond .eq 7, 3) := by decide +kernel
theorem dX8_isInForce_48 : decode cX8_isInForce 48 = .ok (.iconst 1, 1) := by decide +kernel
theorem dX8_isInForce_49 : decode cX8_isInForce 49 = .ok (.goto 4, 3) := by decide +kernel
theorem dX8_isInForce_52 : decode cX8_isInForce 52 = .ok (.iconst 0, 1) := by decide +kernel
theorem dX8_isInForce_53 : decode cX8_isInForce 53 = .ok (.ireturn, 1) := by decide +kernel
theorem dX8_rule_0 : decode cX8_rule 0 = .ok (.iconst (-1), 1) := by decide +kernel
theorem dX8_rule_1 : decode cX8_rule 1 = .ok (.istore_n 2, 1) := by decide +kernel
theorem dX8_rule_2 : decode cX8_rule 2 = .ok (.iconst 0, 1) := by decide +kernel
theorem dX8_rule_3 : decode cX8_rule 3 = .ok (.istore_n 3, 1) := by decide +kernel
theorem dX8_rule_4 : decode cX8_rule 4 = .ok (.iload_n 3, 1) := by decide +kernel
theorem dX8_rule_5 : decode cX8_rule 5 = .ok (.aload_n 0, 1) := by decide +kernel
theorem dX8_rule_6 : decode cX8_rule 6 = .ok (.getfield 87, 3) := by decide +kernel
theorem dX8_rule_9 : decode cX8_rule 9 = .ok (.if_icmp .ge 63, 3) := by decide +kernel
theorem dX8_rule_12 : decode cX8_rule 12 = .ok (.aload_n 0, 1) := by decide +kernel
theorem dX8_rule_13 : decode cX8_rule 13 = .ok (.iload_n 3, 1) := by decide +kernel
theorem dX8_rule_14 : decode cX8_rule 14 = .ok (.aload_n 0, 1) := by decide +kernel
theorem dX8_rule_15 : decode cX8_rule 15 = .ok (.getfield 54, 3) := by decide +kernel
theorem dX8_rule_18 : decode cX8_rule 18 = .ok (.iload_n 1, 1) := by decide +kernel
theorem dX8_rule_19 : decode cX8_rule 19 = .ok (.iaload, 1) := by decide +kernel
theorem dX8_rule_20 : decode cX8_rule 20 = .ok (.invokevirtual 120, 3) := by decide +kernel
theorem dX8_rule_23 : decode cX8_rule 23 = .ok (.ifCond .eq 43, 3) := by decide +kernel
theorem dX8_rule_26 : decode cX8_rule 26 = .ok (.aload_n 0, 1) := by decide +kernel
theorem dX8_rule_27 : decode cX8_rule 27 = .ok (.getfield 48, 3) := by decide +kernel
theorem dX8_rule_30 : decode cX8_rule 30 = .ok (.iload_n 1, 1) := by decide +kernel
theorem dX8_rule_31 : decode cX8_rule 31 = .ok (.iaload, 1) := by decide +kernel
theorem dX8_rule_32 : decode cX8_rule 32 = .ok (.aload_n 0, 1) := by decide +kernel
theorem dX8_rule_33 : decode cX8_rule 33 = .ok (.getfield 9, 3) := by decide +kernel
theorem dX8_rule_36 : decode cX8_rule 36 = .ok (.iload_n 3, 1) := by decide +kernel
theorem dX8_rule_37 : decode cX8_rule 37 = .ok (.iaload, 1) := by decide +kernel
theorem dX8_rule_38 : decode cX8_rule 38 = .ok (.ishr, 1) := by decide +kernel
theorem dX8_rule_39 : decode cX8_rule 39 = .ok (.iconst 1, 1) := by decide +kernel
theorem dX8_rule_40 : decode cX8_rule 40 = .ok (.iand, 1) := by decide +kernel
theorem dX8_rule_41 : decode cX8_rule 41 = .ok (.iconst 1, 1) := by decide +kernel
theorem dX8_rule_42 : decode cX8_rule 42 = .ok (.if_icmp .ne 24, 3) := by decide +kernel
theorem dX8_rule_45 : decode cX8_rule 45 = .ok (.iload_n 2, 1) := by decide +kernel
theorem dX8_rule_46 : decode cX8_rule 46 = .ok (.ifCond .lt 18, 3) := by decide +kernel
theorem dX8_rule_49 : decode cX8_rule 49 = .ok (.aload_n 0, 1) := by decide +kernel
theorem dX8_rule_50 : decode cX8_rule 50 = .ok (.getfield 13, 3) := by decide +kernel
theorem dX8_rule_53 : decode cX8_rule 53 = .ok (.iload_n 3, 1) := by decide +kernel
theorem dX8_rule_54 : decode cX8_rule 54 = .ok (.iaload, 1) := by decide +kernel
theorem dX8_rule_55 : decode cX8_rule 55 = .ok (.aload_n 0, 1) := by decide +kernel
theorem dX8_rule_56 : decode cX8_rule 56 = .ok (.getfield 13, 3) := by decide +kernel
theorem dX8_rule_59 : decode cX8_rule 59 = .ok (.iload_n 2, 1) := by decide +kernel
theorem dX8_rule_60 : decode cX8_rule 60 = .ok (.iaload, 1) := by decide +kernel
theorem dX8_rule_61 : decode cX8_rule 61 = .ok (.if_icmp .lt 5, 3) := by decide +kernel
theorem dX8_rule_64 : decode cX8_rule 64 = .ok (.iload_n 3, 1) := by decide +kernel
theorem dX8_rule_65 : decode cX8_rule 65 = .ok (.istore_n 2, 1) := by decide +kernel
theorem dX8_rule_66 : decode cX8_rule 66 = .ok (.iinc 3 1, 3) := by decide +kernel
theorem dX8_rule_69 : decode cX8_rule 69 = .ok (.goto (-65), 3) := by decide +kernel
theorem dX8_rule_72 : decode cX8_rule 72 = .ok (.iload_n 2, 1) := by decide +kernel
theorem dX8_rule_73 : decode cX8_rule 73 = .ok (.ireturn, 1) := by decide +kernel
theorem dX8_applying_0 : decode cX8_applying 0 = .ok (.aload_n 0, 1) := by decide +kernel
theorem dX8_applying_1 : decode cX8_applying 1 = .ok (.iconst 0, 1) := by decide +kernel
theorem dX8_applying_2 : decode cX8_applying 2 = .ok (.putfield 84, 3) := by decide +kernel
theorem dX8_applying_5 : decode cX8_applying 5 = .ok (.aload_n 0, 1) := by decide +kernel
theorem dX8_applying_6 : decode cX8_applying 6 = .ok (.iload_n 1, 1) := by decide +kernel
theorem dX8_applying_7 : decode cX8_applying 7 = .ok (.invokevirtual 124, 3) := by decide +kernel
theorem dX8_applying_10 : decode cX8_applying 10 = .ok (.ifCond .ne 9, 3) := by decide +kernel
theorem dX8_applying_13 : decode cX8_applying 13 = .ok (.aload_n 0, 1) := by decide +kernel
theorem dX8_applying_14 : decode cX8_applying 14 = .ok (.iconst 1, 1) := by decide +kernel
theorem dX8_applying_15 : decode cX8_applying 15 = .ok (.invokevirtual 103, 3) := by decide +kernel
theorem dX8_applying_18 : decode cX8_applying 18 = .ok (.ireturn, 1) := by decide +kernel
theorem dX8_applying_19 : decode cX8_applying 19 = .ok (.aload_n 0, 1) := by decide +kernel
theorem dX8_applying_20 : decode cX8_applying 20 = .ok (.iload_n 1, 1) := by decide +kernel
theorem dX8_applying_21 : decode cX8_applying 21 = .ok (.invokevirtual 127, 3) := by decide +kernel
theorem dX8_applying_24 : decode cX8_applying 24 = .ok (.ifCond .ge 11, 3) := by decide +kernel
theorem dX8_applying_27 : decode cX8_applying 27 = .ok (.aload_n 0, 1) := by decide +kernel
theorem dX8_applying_28 : decode cX8_applying 28 = .ok (.iconst 2, 1) := by decide +kernel
theorem dX8_applying_29 : decode cX8_applying 29 = .ok (.invokevirtual 103, 3) := by decide +kernel
theorem dX8_applying_32 : decode cX8_applying 32 = .ok (.goto 8, 3) := by decide +kernel
theorem dX8_applying_35 : decode cX8_applying 35 = .ok (.aload_n 0, 1) := by decide +kernel
theorem dX8_applying_36 : decode cX8_applying 36 = .ok (.iload_n 1, 1) := by decide +kernel
theorem dX8_applying_37 : decode cX8_applying 37 = .ok (.invokevirtual 127, 3) := by decide +kernel
theorem dX8_applying_40 : decode cX8_applying 40 = .ok (.ireturn, 1) := by decide +kernel
theorem dX8_conflicts_0 : decode cX8_conflicts 0 = .ok (.aload_n 0, 1) := by decide +kernel
theorem dX8_conflicts_1 : decode cX8_conflicts 1 = .ok (.iconst 0, 1) := by decide +kernel
theorem dX8_conflicts_2 : decode cX8_conflicts 2 = .ok (.putfield 84, 3) := by decide +kernel
theorem dX8_conflicts_5 : decode cX8_conflicts 5 = .ok (.iload_n 1, 1) := by decide +kernel
theorem dX8_conflicts_6 : decode cX8_conflicts 6 = .ok (.iconst 0, 1) := by decide +kernel
theorem dX8_conflicts_7 : decode cX8_conflicts 7 = .ok (.sipush 1000, 3) := by decide +kernel
theorem dX8_conflicts_10 : decode cX8_conflicts 10 = .ok (.invokestatic 90, 3) := by decide +kernel
theorem dX8_conflicts_13 : decode cX8_conflicts 13 = .ok (.ifCond .ne 9, 3) := by decide +kernel
theorem dX8_conflicts_16 : decode cX8_conflicts 16 = .ok (.aload_n 0, 1) := by decide +kernel
theorem dX8_conflicts_17 : decode cX8_conflicts 17 = .ok (.iconst 1, 1) := by decide +kernel
theorem dX8_conflicts_18 : decode cX8_conflicts 18 = .ok (.invokevirtual 103, 3) := by decide +kernel
theorem dX8_conflicts_21 : decode cX8_conflicts 21 = .ok (.ireturn, 1) := by decide +kernel
theorem dX8_conflicts_22 : decode cX8_conflicts 22 = .ok (.iconst 0, 1) := by decide +kernel
theorem dX8_conflicts_23 : decode cX8_conflicts 23 = .ok (.istore_n 2, 1) := by decide +kernel
theorem dX8_conflicts_24 : decode cX8_conflicts 24 = .ok (.iconst 0, 1) := by decide +kernel
theorem dX8_conflicts_25 : decode cX8_conflicts 25 = .ok (.istore_n 3, 1) := by decide +kernel
theorem dX8_conflicts_26 : decode cX8_conflicts 26 = .ok (.iload_n 3, 1) := by decide +kernel
theorem dX8_conflicts_27 : decode cX8_conflicts 27 = .ok (.aload_n 0, 1) := by decide +kernel
theorem dX8_conflicts_28 : decode cX8_conflicts 28 = .ok (.getfield 87, 3) := by decide +kernel
theorem dX8_conflicts_31 : decode cX8_conflicts 31 = .ok (.if_icmp .ge 99, 3) := by decide +kernel
theorem dX8_conflicts_34 : decode cX8_conflicts 34 = .ok (.iconst 0, 1) := by decide +kernel
theorem dX8_conflicts_35 : decode cX8_conflicts 35 = .ok (.istore 4, 2) := by decide +kernel
theorem dX8_conflicts_37 : decode cX8_conflicts 37 = .ok (.iload 4, 2) := by decide +kernel
theorem dX8_conflicts_39 : decode cX8_conflicts 39 = .ok (.iload_n 3, 1) := by decide +kernel
theorem dX8_conflicts_40 : decode cX8_conflicts 40 = .ok (.if_icmp .ge 84, 3) := by decide +kernel
theorem dX8_conflicts_43 : decode cX8_conflicts 43 = .ok (.iload_n 2, 1) := by decide +kernel
theorem dX8_conflicts_44 : decode cX8_conflicts 44 = .ok (.aload_n 0, 1) := by decide +kernel
theorem dX8_conflicts_45 : decode cX8_conflicts 45 = .ok (.iload_n 3, 1) := by decide +kernel
theorem dX8_conflicts_46 : decode cX8_conflicts 46 = .ok (.iload_n 1, 1) := by decide +kernel
theorem dX8_conflicts_47 : decode cX8_conflicts 47 = .ok (.invokevirtual 120, 3) := by decide +kernel
theorem dX8_conflicts_50 : decode cX8_conflicts 50 = .ok (.ifCond .eq 65, 3) := by decide +kernel
theorem dX8_conflicts_53 : decode cX8_conflicts 53 = .ok (.aload_n 0, 1) := by decide +kernel
theorem dX8_conflicts_54 : decode cX8_conflicts 54 = .ok (.iload 4, 2) := by decide +kernel
theorem dX8_conflicts_56 : decode cX8_conflicts 56 = .ok (.iload_n 1, 1) := by decide +kernel
theorem dX8_conflicts_57 : decode cX8_conflicts 57 = .ok (.invokevirtual 120, 3) := by decide +kernel
theorem dX8_conflicts_60 : decode cX8_conflicts 60 = .ok (.ifCond .eq 55, 3) := by decide +kernel
theorem dX8_conflicts_63 : decode cX8_conflicts 63 = .ok (.aload_n 0, 1) := by decide +kernel
theorem dX8_conflicts_64 : decode cX8_conflicts 64 = .ok (.getfield 9, 3) := by decide +kernel
theorem dX8_conflicts_67 : decode cX8_conflicts 67 = .ok (.iload_n 3, 1) := by decide +kernel
theorem dX8_conflicts_68 : decode cX8_conflicts 68 = .ok (.iaload, 1) := by decide +kernel
theorem dX8_conflicts_69 : decode cX8_conflicts 69 = .ok (.aload_n 0, 1) := by decide +kernel
theorem dX8_conflicts_70 : decode cX8_conflicts 70 = .ok (.getfield 9, 3) := by decide +kernel
theorem dX8_conflicts_73 : decode cX8_conflicts 73 = .ok (.iload 4, 2) := by decide +kernel
theorem dX8_conflicts_75 : decode cX8_conflicts 75 = .ok (.iaload, 1) := by decide +kernel
theorem dX8_conflicts_76 : decode cX8_conflicts 76 = .ok (.if_icmp .ne 39, 3) := by decide +kernel
theorem dX8_conflicts_79 : decode cX8_conflicts 79 = .ok (.aload_n 0, 1) := by decide +kernel
theorem dX8_conflicts_80 : decode cX8_conflicts 80 = .ok (.getfield 13, 3) := by decide +kernel
theorem dX8_conflicts_83 : decode cX8_conflicts 83 = .ok (.iload_n 3, 1) := by decide +kernel
theorem dX8_conflicts_84 : decode cX8_conflicts 84 = .ok (.iaload, 1) := by decide +kernel
theorem dX8_conflicts_85 : decode cX8_conflicts 85 = .ok (.aload_n 0, 1) := by decide +kernel
theorem dX8_conflicts_86 : decode cX8_conflicts 86 = .ok (.getfield 13, 3) := by decide +kernel
theorem dX8_conflicts_89 : decode cX8_conflicts 89 = .ok (.iload 4, 2) := by decide +kernel
theorem dX8_conflicts_91 : decode cX8_conflicts 91 = .ok (.iaload, 1) := by decide +kernel
theorem dX8_conflicts_92 : decode cX8_conflicts 92 = .ok (.if_icmp .ne 23, 3) := by decide +kernel
theorem dX8_conflicts_95 : decode cX8_conflicts 95 = .ok (.aload_n 0, 1) := by decide +kernel
theorem dX8_conflicts_96 : decode cX8_conflicts 96 = .ok (.getfield 34, 3) := by decide +kernel
theorem dX8_conflicts_99 : decode cX8_conflicts 99 = .ok (.iload_n 3, 1) := by decide +kernel
theorem dX8_conflicts_100 : decode cX8_conflicts 100 = .ok (.baload, 1) := by decide +kernel
theorem dX8_conflicts_101 : decode cX8_conflicts 101 = .ok (.aload_n 0, 1) := by decide +kernel
theorem dX8_conflicts_102 : decode cX8_conflicts 102 = .ok (.getfield 34, 3) := by decide +kernel
theorem dX8_conflicts_105 : decode cX8_conflicts 105 = .ok (.iload 4, 2) := by decide +kernel
theorem dX8_conflicts_107 : decode cX8_conflicts 107 = .ok (.baload, 1) := by decide +kernel
theorem dX8_conflicts_108 : decode cX8_conflicts 108 = .ok (.if_icmp .eq 7, 3) := by decide +kernel
theorem dX8_conflicts_111 : decode cX8_conflicts 111 = .ok (.iconst 1, 1) := by decide +kernel
theorem dX8_conflicts_112 : decode cX8_conflicts 112 = .ok (.goto 4, 3) := by decide +kernel
theorem dX8_conflicts_115 : decode cX8_conflicts 115 = .ok (.iconst 0, 1) := by decide +kernel
theorem dX8_conflicts_116 : decode cX8_conflicts 116 = .ok (.iadd, 1) := by decide +kernel
theorem dX8_conflicts_117 : decode cX8_conflicts 117 = .ok (.istore_n 2, 1) := by decide +kernel
theorem dX8_conflicts_118 : decode cX8_conflicts 118 = .ok (.iinc 4 1, 3) := by decide +kernel
theorem dX8_conflicts_121 : decode cX8_conflicts 121 = .ok (.goto (-84), 3) := by decide +kernel
theorem dX8_conflicts_124 : decode cX8_conflicts 124 = .ok (.iinc 3 1, 3) := by decide +kernel
theorem dX8_conflicts_127 : decode cX8_conflicts 127 = .ok (.goto (-101), 3) := by decide +kernel
theorem dX8_conflicts_130 : decode cX8_conflicts 130 = .ok (.iload_n 2, 1) := by decide +kernel
theorem dX8_conflicts_131 : decode cX8_conflicts 131 = .ok (.ireturn, 1) := by decide +kernel
theorem dX8_addUser_0 : decode cX8_addUser 0 = .ok (.aload_n 0, 1) := by decide +kernel
theorem dX8_addUser_1 : decode cX8_addUser 1 = .ok (.iconst 0, 1) := by decide +kernel
theorem dX8_addUser_2 : decode cX8_addUser 2 = .ok (.putfield 84, 3) := by decide +kernel
theorem dX8_addUser_5 : decode cX8_addUser 5 = .ok (.iload_n 1, 1) := by decide +kernel
theorem dX8_addUser_6 : decode cX8_addUser 6 = .ok (.iconst 1, 1) := by decide +kernel
theorem dX8_addUser_7 : decode cX8_addUser 7 = .ok (.bipush 9, 2) := by decide +kernel
theorem dX8_addUser_9 : decode cX8_addUser 9 = .ok (.invokestatic 90, 3) := by decide +kernel
theorem dX8_addUser_12 : decode cX8_addUser 12 = .ok (.ifCond .ne 9, 3) := by decide +kernel
theorem dX8_addUser_15 : decode cX8_addUser 15 = .ok (.aload_n 0, 1) := by decide +kernel
theorem dX8_addUser_16 : decode cX8_addUser 16 = .ok (.iconst 1, 1) := by decide +kernel
theorem dX8_addUser_17 : decode cX8_addUser 17 = .ok (.invokevirtual 103, 3) := by decide +kernel
theorem dX8_addUser_20 : decode cX8_addUser 20 = .ok (.ireturn, 1) := by decide +kernel
theorem dX8_addUser_21 : decode cX8_addUser 21 = .ok (.aload_n 0, 1) := by decide +kernel
theorem dX8_addUser_22 : decode cX8_addUser 22 = .ok (.getfield 94, 3) := by decide +kernel
theorem dX8_addUser_25 : decode cX8_addUser 25 = .ok (.bipush 8, 2) := by decide +kernel
theorem dX8_addUser_27 : decode cX8_addUser 27 = .ok (.if_icmp .ne 9, 3) := by decide +kernel
theorem dX8_addUser_30 : decode cX8_addUser 30 = .ok (.aload_n 0, 1) := by decide +kernel
theorem dX8_addUser_31 : decode cX8_addUser 31 = .ok (.iconst 2, 1) := by decide +kernel
theorem dX8_addUser_32 : decode cX8_addUser 32 = .ok (.invokevirtual 103, 3) := by decide +kernel
theorem dX8_addUser_35 : decode cX8_addUser 35 = .ok (.ireturn, 1) := by decide +kernel
theorem dX8_addUser_36 : decode cX8_addUser 36 = .ok (.aload_n 0, 1) := by decide +kernel
theorem dX8_addUser_37 : decode cX8_addUser 37 = .ok (.getfield 25, 3) := by decide +kernel
theorem dX8_addUser_40 : decode cX8_addUser 40 = .ok (.aload_n 0, 1) := by decide +kernel
theorem dX8_addUser_41 : decode cX8_addUser 41 = .ok (.getfield 94, 3) := by decide +kernel
theorem dX8_addUser_44 : decode cX8_addUser 44 = .ok (.iload_n 1, 1) := by decide +kernel
theorem dX8_addUser_45 : decode cX8_addUser 45 = .ok (.iastore, 1) := by decide +kernel
theorem dX8_addUser_46 : decode cX8_addUser 46 = .ok (.aload_n 0, 1) := by decide +kernel
theorem dX8_addUser_47 : decode cX8_addUser 47 = .ok (.dup, 1) := by decide +kernel
theorem dX8_addUser_48 : decode cX8_addUser 48 = .ok (.getfield 94, 3) := by decide +kernel
theorem dX8_addUser_51 : decode cX8_addUser 51 = .ok (.iconst 1, 1) := by decide +kernel
theorem dX8_addUser_52 : decode cX8_addUser 52 = .ok (.iadd, 1) := by decide +kernel
theorem dX8_addUser_53 : decode cX8_addUser 53 = .ok (.putfield 94, 3) := by decide +kernel
theorem dX8_addUser_56 : decode cX8_addUser 56 = .ok (.aload_n 0, 1) := by decide +kernel
theorem dX8_addUser_57 : decode cX8_addUser 57 = .ok (.getfield 94, 3) := by decide +kernel
theorem dX8_addUser_60 : decode cX8_addUser 60 = .ok (.iconst 1, 1) := by decide +kernel
theorem dX8_addUser_61 : decode cX8_addUser 61 = .ok (.isub, 1) := by decide +kernel
theorem dX8_addUser_62 : decode cX8_addUser 62 = .ok (.ireturn, 1) := by decide +kernel
theorem dX8_setWeight_0 : decode cX8_setWeight 0 = .ok (.aload_n 0, 1) := by decide +kernel
theorem dX8_setWeight_1 : decode cX8_setWeight 1 = .ok (.iconst 0, 1) := by decide +kernel
theorem dX8_setWeight_2 : decode cX8_setWeight 2 = .ok (.putfield 84, 3) := by decide +kernel
theorem dX8_setWeight_5 : decode cX8_setWeight 5 = .ok (.aload_n 0, 1) := by decide +kernel
theorem dX8_setWeight_6 : decode cX8_setWeight 6 = .ok (.iload_n 1, 1) := by decide +kernel
theorem dX8_setWeight_7 : decode cX8_setWeight 7 = .ok (.invokevirtual 130, 3) := by decide +kernel
theorem dX8_setWeight_10 : decode cX8_setWeight 10 = .ok (.ifCond .ne 9, 3) := by decide +kernel
theorem dX8_setWeight_13 : decode cX8_setWeight 13 = .ok (.aload_n 0, 1) := by decide +kernel
theorem dX8_setWeight_14 : decode cX8_setWeight 14 = .ok (.iconst 1, 1) := by decide +kernel
theorem dX8_setWeight_15 : decode cX8_setWeight 15 = .ok (.invokevirtual 103, 3) := by decide +kernel
theorem dX8_setWeight_18 : decode cX8_setWeight 18 = .ok (.ireturn, 1) := by decide +kernel
theorem dX8_setWeight_19 : decode cX8_setWeight 19 = .ok (.iload_n 2, 1) := by decide +kernel
theorem dX8_setWeight_20 : decode cX8_setWeight 20 = .ok (.iconst 1, 1) := by decide +kernel
theorem dX8_setWeight_21 : decode cX8_setWeight 21 = .ok (.bipush 9, 2) := by decide +kernel
theorem dX8_setWeight_23 : decode cX8_setWeight 23 = .ok (.invokestatic 90, 3) := by decide +kernel
theorem dX8_setWeight_26 : decode cX8_setWeight 26 = .ok (.ifCond .ne 9, 3) := by decide +kernel
theorem dX8_setWeight_29 : decode cX8_setWeight 29 = .ok (.aload_n 0, 1) := by decide +kernel
theorem dX8_setWeight_30 : decode cX8_setWeight 30 = .ok (.iconst 2, 1) := by decide +kernel
theorem dX8_setWeight_31 : decode cX8_setWeight 31 = .ok (.invokevirtual 103, 3) := by decide +kernel
theorem dX8_setWeight_34 : decode cX8_setWeight 34 = .ok (.ireturn, 1) := by decide +kernel
theorem dX8_setWeight_35 : decode cX8_setWeight 35 = .ok (.aload_n 0, 1) := by decide +kernel
theorem dX8_setWeight_36 : decode cX8_setWeight 36 = .ok (.getfield 25, 3) := by decide +kernel
theorem dX8_setWeight_39 : decode cX8_setWeight 39 = .ok (.iload_n 1, 1) := by decide +kernel
theorem dX8_setWeight_40 : decode cX8_setWeight 40 = .ok (.iaload, 1) := by decide +kernel
theorem dX8_setWeight_41 : decode cX8_setWeight 41 = .ok (.istore_n 3, 1) := by decide +kernel
theorem dX8_setWeight_42 : decode cX8_setWeight 42 = .ok (.aload_n 0, 1) := by decide +kernel
theorem dX8_setWeight_43 : decode cX8_setWeight 43 = .ok (.getfield 25, 3) := by decide +kernel
theorem dX8_setWeight_46 : decode cX8_setWeight 46 = .ok (.iload_n 1, 1) := by decide +kernel
theorem dX8_setWeight_47 : decode cX8_setWeight 47 = .ok (.iload_n 2, 1) := by decide +kernel
theorem dX8_setWeight_48 : decode cX8_setWeight 48 = .ok (.iastore, 1) := by decide +kernel
theorem dX8_setWeight_49 : decode cX8_setWeight 49 = .ok (.iload_n 3, 1) := by decide +kernel
theorem dX8_setWeight_50 : decode cX8_setWeight 50 = .ok (.ireturn, 1) := by decide +kernel
theorem dX8_stands_0 : decode cX8_stands 0 = .ok (.aload_n 0, 1) := by decide +kernel
theorem dX8_stands_1 : decode cX8_stands 1 = .ok (.getfield 69, 3) := by decide +kernel
theorem dX8_stands_4 : decode cX8_stands 4 = .ok (.iload_n 1, 1) := by decide +kernel
theorem dX8_stands_5 : decode cX8_stands 5 = .ok (.caload, 1) := by decide +kernel
theorem dX8_stands_6 : decode cX8_stands 6 = .ok (.bipush 100, 2) := by decide +kernel
theorem dX8_stands_8 : decode cX8_stands 8 = .ok (.if_icmp .ne 17, 3) := by decide +kernel
theorem dX8_stands_11 : decode cX8_stands 11 = .ok (.aload_n 0, 1) := by decide +kernel
theorem dX8_stands_12 : decode cX8_stands 12 = .ok (.getfield 73, 3) := by decide +kernel
theorem dX8_stands_15 : decode cX8_stands 15 = .ok (.iload_n 1, 1) := by decide +kernel
theorem dX8_stands_16 : decode cX8_stands 16 = .ok (.caload, 1) := by decide +kernel
theorem dX8_stands_17 : decode cX8_stands 17 = .ok (.iload_n 2, 1) := by decide +kernel
theorem dX8_stands_18 : decode cX8_stands 18 = .ok (.if_icmp .ne 7, 3) := by decide +kernel
theorem dX8_stands_21 : decode cX8_stands 21 = .ok (.iconst 1, 1) := by decide +kernel
theorem dX8_stands_22 : decode cX8_stands 22 = .ok (.goto 4, 3) := by decide +kernel
theorem dX8_stands_25 : decode cX8_stands 25 = .ok (.iconst 0, 1) := by decide +kernel
theorem dX8_stands_26 : decode cX8_stands 26 = .ok (.ireturn, 1) := by decide +kernel
theorem dX8_includes_0 : decode cX8_includes 0 = .ok (.aload_n 0, 1) := by decide +kernel
theorem dX8_includes_1 : decode cX8_includes 1 = .ok (.iload_n 1, 1) := by decide +kernel
theorem dX8_includes_2 : decode cX8_includes 2 = .ok (.bipush 103, 2) := by decide +kernel
theorem dX8_includes_4 : decode cX8_includes 4 = .ok (.invokevirtual 133, 3) := by decide +kernel
theorem dX8_includes_7 : decode cX8_includes 7 = .ok (.ifCond .eq 28, 3) := by decide +kernel
theorem dX8_includes_10 : decode cX8_includes 10 = .ok (.iload_n 2, 1) := by decide +kernel
theorem dX8_includes_11 : decode cX8_includes 11 = .ok (.aload_n 0, 1) := by decide +kernel
theorem dX8_includes_12 : decode cX8_includes 12 = .ok (.getfield 63, 3) := by decide +kernel
theorem dX8_includes_15 : decode cX8_includes 15 = .ok (.iload_n 1, 1) := by decide +kernel
theorem dX8_includes_16 : decode cX8_includes 16 = .ok (.iaload, 1) := by decide +kernel
theorem dX8_includes_17 : decode cX8_includes 17 = .ok (.aload_n 0, 1) := by decide +kernel
theorem dX8_includes_18 : decode cX8_includes 18 = .ok (.getfield 66, 3) := by decide +kernel
theorem dX8_includes_21 : decode cX8_includes 21 = .ok (.iload_n 1, 1) := by decide +kernel
theorem dX8_includes_22 : decode cX8_includes 22 = .ok (.iaload, 1) := by decide +kernel
theorem dX8_includes_23 : decode cX8_includes 23 = .ok (.iconst 1, 1) := by decide +kernel
theorem dX8_includes_24 : decode cX8_includes 24 = .ok (.isub, 1) := by decide +kernel
theorem dX8_includes_25 : decode cX8_includes 25 = .ok (.invokestatic 90, 3) := by decide +kernel
theorem dX8_includes_28 : decode cX8_includes 28 = .ok (.ifCond .eq 7, 3) := by decide +kernel
theorem dX8_includes_31 : decode cX8_includes 31 = .ok (.iconst 1, 1) := by decide +kernel
theorem dX8_includes_32 : decode cX8_includes 32 = .ok (.goto 4, 3) := by decide +kernel
theorem dX8_includes_35 : decode cX8_includes 35 = .ok (.iconst 0, 1) := by decide +kernel
theorem dX8_includes_36 : decode cX8_includes 36 = .ok (.ireturn, 1) := by decide +kernel
theorem dX8_sanctionsOf_0 : decode cX8_sanctionsOf 0 = .ok (.iconst 0, 1) := by decide +kernel
theorem dX8_sanctionsOf_1 : decode cX8_sanctionsOf 1 = .ok (.istore_n 2, 1) := by decide +kernel
theorem dX8_sanctionsOf_2 : decode cX8_sanctionsOf 2 = .ok (.iconst 0, 1) := by decide +kernel
theorem dX8_sanctionsOf_3 : decode cX8_sanctionsOf 3 = .ok (.istore_n 3, 1) := by decide +kernel
theorem dX8_sanctionsOf_4 : decode cX8_sanctionsOf 4 = .ok (.iload_n 3, 1) := by decide +kernel
theorem dX8_sanctionsOf_5 : decode cX8_sanctionsOf 5 = .ok (.aload_n 0, 1) := by decide +kernel
theorem dX8_sanctionsOf_6 : decode cX8_sanctionsOf 6 = .ok (.getfield 97, 3) := by decide +kernel
theorem dX8_sanctionsOf_9 : decode cX8_sanctionsOf 9 = .ok (.if_icmp .ge 39, 3) := by decide +kernel
theorem dX8_sanctionsOf_12 : decode cX8_sanctionsOf 12 = .ok (.iload_n 2, 1) := by decide +kernel
theorem dX8_sanctionsOf_13 : decode cX8_sanctionsOf 13 = .ok (.aload_n 0, 1) := by decide +kernel
theorem dX8_sanctionsOf_14 : decode cX8_sanctionsOf 14 = .ok (.getfield 45, 3) := by decide +kernel
theorem dX8_sanctionsOf_17 : decode cX8_sanctionsOf 17 = .ok (.iload_n 3, 1) := by decide +kernel
theorem dX8_sanctionsOf_18 : decode cX8_sanctionsOf 18 = .ok (.iaload, 1) := by decide +kernel
theorem dX8_sanctionsOf_19 : decode cX8_sanctionsOf 19 = .ok (.iload_n 1, 1) := by decide +kernel
theorem dX8_sanctionsOf_20 : decode cX8_sanctionsOf 20 = .ok (.if_icmp .ne 19, 3) := by decide +kernel
theorem dX8_sanctionsOf_23 : decode cX8_sanctionsOf 23 = .ok (.aload_n 0, 1) := by decide +kernel
theorem dX8_sanctionsOf_24 : decode cX8_sanctionsOf 24 = .ok (.iload_n 3, 1) := by decide +kernel
theorem dX8_sanctionsOf_25 : decode cX8_sanctionsOf 25 = .ok (.aload_n 0, 1) := by decide +kernel
theorem dX8_sanctionsOf_26 : decode cX8_sanctionsOf 26 = .ok (.getfield 100, 3) := by decide +kernel
theorem dX8_sanctionsOf_29 : decode cX8_sanctionsOf 29 = .ok (.invokevirtual 137, 3) := by decide +kernel
theorem dX8_sanctionsOf_32 : decode cX8_sanctionsOf 32 = .ok (.ifCond .eq 7, 3) := by decide +kernel
theorem dX8_sanctionsOf_35 : decode cX8_sanctionsOf 35 = .ok (.iconst 1, 1) := by decide +kernel
theorem dX8_sanctionsOf_36 : decode cX8_sanctionsOf 36 = .ok (.goto 4, 3) := by decide +kernel
theorem dX8_sanctionsOf_39 : decode cX8_sanctionsOf 39 = .ok (.iconst 0, 1) := by decide +kernel
theorem dX8_sanctionsOf_40 : decode cX8_sanctionsOf 40 = .ok (.iadd, 1) := by decide +kernel
theorem dX8_sanctionsOf_41 : decode cX8_sanctionsOf 41 = .ok (.istore_n 2, 1) := by decide +kernel
theorem dX8_sanctionsOf_42 : decode cX8_sanctionsOf 42 = .ok (.iinc 3 1, 3) := by decide +kernel
theorem dX8_sanctionsOf_45 : decode cX8_sanctionsOf 45 = .ok (.goto (-41), 3) := by decide +kernel
theorem dX8_sanctionsOf_48 : decode cX8_sanctionsOf 48 = .ok (.iload_n 2, 1) := by decide +kernel
theorem dX8_sanctionsOf_49 : decode cX8_sanctionsOf 49 = .ok (.ireturn, 1) := by decide +kernel
theorem dX8_sanctions_0 : decode cX8_sanctions 0 = .ok (.aload_n 0, 1) := by decide +kernel
theorem dX8_sanctions_1 : decode cX8_sanctions 1 = .ok (.iconst 0, 1) := by decide +kernel
theorem dX8_sanctions_2 : decode cX8_sanctions 2 = .ok (.putfield 84, 3) := by decide +kernel
theorem dX8_sanctions_5 : decode cX8_sanctions 5 = .ok (.aload_n 0, 1) := by decide +kernel
theorem dX8_sanctions_6 : decode cX8_sanctions 6 = .ok (.iload_n 1, 1) := by decide +kernel
theorem dX8_sanctions_7 : decode cX8_sanctions 7 = .ok (.invokevirtual 130, 3) := by decide +kernel
theorem dX8_sanctions_10 : decode cX8_sanctions 10 = .ok (.ifCond .eq 11, 3) := by decide +kernel
theorem dX8_sanctions_13 : decode cX8_sanctions 13 = .ok (.aload_n 0, 1) := by decide +kernel
theorem dX8_sanctions_14 : decode cX8_sanctions 14 = .ok (.iload_n 1, 1) := by decide +kernel
theorem dX8_sanctions_15 : decode cX8_sanctions 15 = .ok (.invokevirtual 140, 3) := by decide +kernel
theorem dX8_sanctions_18 : decode cX8_sanctions 18 = .ok (.goto 8, 3) := by decide +kernel
theorem dX8_sanctions_21 : decode cX8_sanctions 21 = .ok (.aload_n 0, 1) := by decide +kernel
theorem dX8_sanctions_22 : decode cX8_sanctions 22 = .ok (.iconst 1, 1) := by decide +kernel
theorem dX8_sanctions_23 : decode cX8_sanctions 23 = .ok (.invokevirtual 103, 3) := by decide +kernel
theorem dX8_sanctions_26 : decode cX8_sanctions 26 = .ok (.ireturn, 1) := by decide +kernel
theorem dX8_sanctionedUntil_0 : decode cX8_sanctionedUntil 0 = .ok (.aload_n 0, 1) := by decide +kernel
theorem dX8_sanctionedUntil_1 : decode cX8_sanctionedUntil 1 = .ok (.iconst 0, 1) := by decide +kernel
theorem dX8_sanctionedUntil_2 : decode cX8_sanctionedUntil 2 = .ok (.putfield 84, 3) := by decide +kernel
theorem dX8_sanctionedUntil_5 : decode cX8_sanctionedUntil 5 = .ok (.aload_n 0, 1) := by decide +kernel
theorem dX8_sanctionedUntil_6 : decode cX8_sanctionedUntil 6 = .ok (.iload_n 1, 1) := by decide +kernel
theorem dX8_sanctionedUntil_7 : decode cX8_sanctionedUntil 7 = .ok (.invokevirtual 130, 3) := by decide +kernel
theorem dX8_sanctionedUntil_10 : decode cX8_sanctionedUntil 10 = .ok (.ifCond .ne 9, 3) := by decide +kernel
theorem dX8_sanctionedUntil_13 : decode cX8_sanctionedUntil 13 = .ok (.aload_n 0, 1) := by decide +kernel
theorem dX8_sanctionedUntil_14 : decode cX8_sanctionedUntil 14 = .ok (.iconst 1, 1) := by decide +kernel
theorem dX8_sanctionedUntil_15 : decode cX8_sanctionedUntil 15 = .ok (.invokevirtual 103, 3) := by decide +kernel
theorem dX8_sanctionedUntil_18 : decode cX8_sanctionedUntil 18 = .ok (.ireturn, 1) := by decide +kernel
theorem dX8_sanctionedUntil_19 : decode cX8_sanctionedUntil 19 = .ok (.iconst 0, 1) := by decide +kernel
theorem dX8_sanctionedUntil_20 : decode cX8_sanctionedUntil 20 = .ok (.istore_n 2, 1) := by decide +kernel
theorem dX8_sanctionedUntil_21 : decode cX8_sanctionedUntil 21 = .ok (.iconst 0, 1) := by decide +kernel
theorem dX8_sanctionedUntil_22 : decode cX8_sanctionedUntil 22 = .ok (.istore_n 3, 1) := by decide +kernel
theorem dX8_sanctionedUntil_23 : decode cX8_sanctionedUntil 23 = .ok (.iload_n 3, 1) := by decide +kernel
theorem dX8_sanctionedUntil_24 : decode cX8_sanctionedUntil 24 = .ok (.aload_n 0, 1) := by decide +kernel
theorem dX8_sanctionedUntil_25 : decode cX8_sanctionedUntil 25 = .ok (.getfield 97, 3) := by decide +kernel
theorem dX8_sanctionedUntil_28 : decode cX8_sanctionedUntil 28 = .ok (.if_icmp .ge 46, 3) := by decide +kernel
theorem dX8_sanctionedUntil_31 : decode cX8_sanctionedUntil 31 = .ok (.aload_n 0, 1) := by decide +kernel
theorem dX8_sanctionedUntil_32 : decode cX8_sanctionedUntil 32 = .ok (.getfield 45, 3) := by decide +kernel
theorem dX8_sanctionedUntil_35 : decode cX8_sanctionedUntil 35 = .ok (.iload_n 3, 1) := by decide +kernel
theorem dX8_sanctionedUntil_36 : decode cX8_sanctionedUntil 36 = .ok (.iaload, 1) := by decide +kernel
theorem dX8_sanctionedUntil_37 : decode cX8_sanctionedUntil 37 = .ok (.iload_n 1, 1) := by decide +kernel
theorem dX8_sanctionedUntil_38 : decode cX8_sanctionedUntil 38 = .ok (.if_icmp .ne 28, 3) := by decide +kernel
theorem dX8_sanctionedUntil_41 : decode cX8_sanctionedUntil 41 = .ok (.aload_n 0, 1) := by decide +kernel
theorem dX8_sanctionedUntil_42 : decode cX8_sanctionedUntil 42 = .ok (.iload_n 3, 1) := by decide +kernel
theorem dX8_sanctionedUntil_43 : decode cX8_sanctionedUntil 43 = .ok (.aload_n 0, 1) := by decide +kernel
theorem dX8_sanctionedUntil_44 : decode cX8_sanctionedUntil 44 = .ok (.getfield 100, 3) := by decide +kernel
theorem dX8_sanctionedUntil_47 : decode cX8_sanctionedUntil 47 = .ok (.invokevirtual 137, 3) := by decide +kernel
theorem dX8_sanctionedUntil_50 : decode cX8_sanctionedUntil 50 = .ok (.ifCond .eq 16, 3) := by decide +kernel
theorem dX8_sanctionedUntil_53 : decode cX8_sanctionedUntil 53 = .ok (.iload_n 2, 1) := by decide +kernel
theorem dX8_sanctionedUntil_54 : decode cX8_sanctionedUntil 54 = .ok (.aload_n 0, 1) := by decide +kernel
theorem dX8_sanctionedUntil_55 : decode cX8_sanctionedUntil 55 = .ok (.getfield 66, 3) := by decide +kernel
theorem dX8_sanctionedUntil_58 : decode cX8_sanctionedUntil 58 = .ok (.iload_n 3, 1) := by decide +kernel
theorem dX8_sanctionedUntil_59 : decode cX8_sanctionedUntil 59 = .ok (.iaload, 1) := by decide +kernel
theorem dX8_sanctionedUntil_60 : decode cX8_sanctionedUntil 60 = .ok (.invokestatic 114, 3) := by decide +kernel
theorem dX8_sanctionedUntil_63 : decode cX8_sanctionedUntil 63 = .ok (.goto 4, 3) := by decide +kernel
theorem dX8_sanctionedUntil_66 : decode cX8_sanctionedUntil 66 = .ok (.iload_n 2, 1) := by decide +kernel
theorem dX8_sanctionedUntil_67 : decode cX8_sanctionedUntil 67 = .ok (.istore_n 2, 1) := by decide +kernel
theorem dX8_sanctionedUntil_68 : decode cX8_sanctionedUntil 68 = .ok (.iinc 3 1, 3) := by decide +kernel
theorem dX8_sanctionedUntil_71 : decode cX8_sanctionedUntil 71 = .ok (.goto (-48), 3) := by decide +kernel
theorem dX8_sanctionedUntil_74 : decode cX8_sanctionedUntil 74 = .ok (.iload_n 2, 1) := by decide +kernel
theorem dX8_sanctionedUntil_75 : decode cX8_sanctionedUntil 75 = .ok (.ifCond .ne 11, 3) := by decide +kernel
theorem dX8_sanctionedUntil_78 : decode cX8_sanctionedUntil 78 = .ok (.aload_n 0, 1) := by decide +kernel
theorem dX8_sanctionedUntil_79 : decode cX8_sanctionedUntil 79 = .ok (.iconst 2, 1) := by decide +kernel
theorem dX8_sanctionedUntil_80 : decode cX8_sanctionedUntil 80 = .ok (.invokevirtual 103, 3) := by decide +kernel
theorem dX8_sanctionedUntil_83 : decode cX8_sanctionedUntil 83 = .ok (.goto 4, 3) := by decide +kernel
theorem dX8_sanctionedUntil_86 : decode cX8_sanctionedUntil 86 = .ok (.iload_n 2, 1) := by decide +kernel
theorem dX8_sanctionedUntil_87 : decode cX8_sanctionedUntil 87 = .ok (.ireturn, 1) := by decide +kernel
theorem dX8_addBot_0 : decode cX8_addBot 0 = .ok (.aload_n 0, 1) := by decide +kernel
theorem dX8_addBot_1 : decode cX8_addBot 1 = .ok (.iconst 0, 1) := by decide +kernel
theorem dX8_addBot_2 : decode cX8_addBot 2 = .ok (.putfield 84, 3) := by decide +kernel
theorem dX8_addBot_5 : decode cX8_addBot 5 = .ok (.iload_n 1, 1) := by decide +kernel
theorem dX8_addBot_6 : decode cX8_addBot 6 = .ok (.iconst 0, 1) := by decide +kernel
theorem dX8_addBot_7 : decode cX8_addBot 7 = .ok (.bipush 7, 2) := by decide +kernel
theorem dX8_addBot_9 : decode cX8_addBot 9 = .ok (.invokestatic 90, 3) := by decide +kernel
theorem dX8_addBot_12 : decode cX8_addBot 12 = .ok (.ifCond .eq 14, 3) := by decide +kernel
theorem dX8_addBot_15 : decode cX8_addBot 15 = .ok (.iload_n 2, 1) := by decide +kernel
theorem dX8_addBot_16 : decode cX8_addBot 16 = .ok (.bipush 50, 2) := by decide +kernel
theorem dX8_addBot_18 : decode cX8_addBot 18 = .ok (.bipush 100, 2) := by decide +kernel
theorem dX8_addBot_20 : decode cX8_addBot 20 = .ok (.invokestatic 90, 3) := by decide +kernel
theorem dX8_addBot_23 : decode cX8_addBot 23 = .ok (.ifCond .ne 9, 3) := by decide +kernel
theorem dX8_addBot_26 : decode cX8_addBot 26 = .ok (.aload_n 0, 1) := by decide +kernel
theorem dX8_addBot_27 : decode cX8_addBot 27 = .ok (.iconst 1, 1) := by decide +kernel
theorem dX8_addBot_28 : decode cX8_addBot 28 = .ok (.invokevirtual 103, 3) := by decide +kernel
theorem dX8_addBot_31 : decode cX8_addBot 31 = .ok (.ireturn, 1) := by decide +kernel
theorem dX8_addBot_32 : decode cX8_addBot 32 = .ok (.aload_n 0, 1) := by decide +kernel
theorem dX8_addBot_33 : decode cX8_addBot 33 = .ok (.getfield 143, 3) := by decide +kernel
theorem dX8_addBot_36 : decode cX8_addBot 36 = .ok (.iconst 4, 1) := by decide +kernel
theorem dX8_addBot_37 : decode cX8_addBot 37 = .ok (.if_icmp .ne 9, 3) := by decide +kernel
theorem dX8_addBot_40 : decode cX8_addBot 40 = .ok (.aload_n 0, 1) := by decide +kernel
theorem dX8_addBot_41 : decode cX8_addBot 41 = .ok (.iconst 2, 1) := by decide +kernel
theorem dX8_addBot_42 : decode cX8_addBot 42 = .ok (.invokevirtual 103, 3) := by decide +kernel
theorem dX8_addBot_45 : decode cX8_addBot 45 = .ok (.ireturn, 1) := by decide +kernel
theorem dX8_addBot_46 : decode cX8_addBot 46 = .ok (.aload_n 0, 1) := by decide +kernel
theorem dX8_addBot_47 : decode cX8_addBot 47 = .ok (.getfield 28, 3) := by decide +kernel
theorem dX8_addBot_50 : decode cX8_addBot 50 = .ok (.aload_n 0, 1) := by decide +kernel
theorem dX8_addBot_51 : decode cX8_addBot 51 = .ok (.getfield 143, 3) := by decide +kernel
theorem dX8_addBot_54 : decode cX8_addBot 54 = .ok (.iload_n 1, 1) := by decide +kernel
theorem dX8_addBot_55 : decode cX8_addBot 55 = .ok (.iastore, 1) := by decide +kernel
theorem dX8_addBot_56 : decode cX8_addBot 56 = .ok (.aload_n 0, 1) := by decide +kernel
theorem dX8_addBot_57 : decode cX8_addBot 57 = .ok (.getfield 31, 3) := by decide +kernel
theorem dX8_addBot_60 : decode cX8_addBot 60 = .ok (.aload_n 0, 1) := by decide +kernel
theorem dX8_addBot_61 : decode cX8_addBot 61 = .ok (.getfield 143, 3) := by decide +kernel
theorem dX8_addBot_64 : decode cX8_addBot 64 = .ok (.iload_n 2, 1) := by decide +kernel
theorem dX8_addBot_65 : decode cX8_addBot 65 = .ok (.iastore, 1) := by decide +kernel
theorem dX8_addBot_66 : decode cX8_addBot 66 = .ok (.aload_n 0, 1) := by decide +kernel
theorem dX8_addBot_67 : decode cX8_addBot 67 = .ok (.dup, 1) := by decide +kernel
theorem dX8_addBot_68 : decode cX8_addBot 68 = .ok (.getfield 143, 3) := by decide +kernel
theorem dX8_addBot_71 : decode cX8_addBot 71 = .ok (.iconst 1, 1) := by decide +kernel
theorem dX8_addBot_72 : decode cX8_addBot 72 = .ok (.iadd, 1) := by decide +kernel
theorem dX8_addBot_73 : decode cX8_addBot 73 = .ok (.putfield 143, 3) := by decide +kernel
theorem dX8_addBot_76 : decode cX8_addBot 76 = .ok (.aload_n 0, 1) := by decide +kernel
theorem dX8_addBot_77 : decode cX8_addBot 77 = .ok (.getfield 143, 3) := by decide +kernel
theorem dX8_addBot_80 : decode cX8_addBot 80 = .ok (.iconst 1, 1) := by decide +kernel
theorem dX8_addBot_81 : decode cX8_addBot 81 = .ok (.isub, 1) := by decide +kernel
theorem dX8_addBot_82 : decode cX8_addBot 82 = .ok (.ireturn, 1) := by decide +kernel
theorem dX8_threshold_0 : decode cX8_threshold 0 = .ok (.aload_n 0, 1) := by decide +kernel
theorem dX8_threshold_1 : decode cX8_threshold 1 = .ok (.iconst 0, 1) := by decide +kernel
theorem dX8_threshold_2 : decode cX8_threshold 2 = .ok (.putfield 84, 3) := by decide +kernel
theorem dX8_threshold_5 : decode cX8_threshold 5 = .ok (.iload_n 1, 1) := by decide +kernel
theorem dX8_threshold_6 : decode cX8_threshold 6 = .ok (.iconst 0, 1) := by decide +kernel
theorem dX8_threshold_7 : decode cX8_threshold 7 = .ok (.aload_n 0, 1) := by decide +kernel
theorem dX8_threshold_8 : decode cX8_threshold 8 = .ok (.getfield 143, 3) := by decide +kernel
theorem dX8_threshold_11 : decode cX8_threshold 11 = .ok (.iconst 1, 1) := by decide +kernel
theorem dX8_threshold_12 : decode cX8_threshold 12 = .ok (.isub, 1) := by decide +kernel
theorem dX8_threshold_13 : decode cX8_threshold 13 = .ok (.invokestatic 90, 3) := by decide +kernel
theorem dX8_threshold_16 : decode cX8_threshold 16 = .ok (.ifCond .eq 12, 3) := by decide +kernel
theorem dX8_threshold_19 : decode cX8_threshold 19 = .ok (.aload_n 0, 1) := by decide +kernel
theorem dX8_threshold_20 : decode cX8_threshold 20 = .ok (.getfield 31, 3) := by decide +kernel
theorem dX8_threshold_23 : decode cX8_threshold 23 = .ok (.iload_n 1, 1) := by decide +kernel
theorem dX8_threshold_24 : decode cX8_threshold 24 = .ok (.iaload, 1) := by decide +kernel
theorem dX8_threshold_25 : decode cX8_threshold 25 = .ok (.goto 8, 3) := by decide +kernel
theorem dX8_threshold_28 : decode cX8_threshold 28 = .ok (.aload_n 0, 1) := by decide +kernel
theorem dX8_threshold_29 : decode cX8_threshold 29 = .ok (.iconst 1, 1) := by decide +kernel
theorem dX8_threshold_30 : decode cX8_threshold 30 = .ok (.invokevirtual 103, 3) := by decide +kernel
theorem dX8_threshold_33 : decode cX8_threshold 33 = .ok (.ireturn, 1) := by decide +kernel
theorem dX8_like_0 : decode cX8_like 0 = .ok (.aload_n 0, 1) := by decide +kernel
theorem dX8_like_1 : decode cX8_like 1 = .ok (.getfield 48, 3) := by decide +kernel
theorem dX8_like_4 : decode cX8_like 4 = .ok (.iload_n 1, 1) := by decide +kernel
theorem dX8_like_5 : decode cX8_like 5 = .ok (.iaload, 1) := by decide +kernel
theorem dX8_like_6 : decode cX8_like 6 = .ok (.aload_n 0, 1) := by decide +kernel
theorem dX8_like_7 : decode cX8_like 7 = .ok (.getfield 48, 3) := by decide +kernel
theorem dX8_like_10 : decode cX8_like 10 = .ok (.iload_n 2, 1) := by decide +kernel
theorem dX8_like_11 : decode cX8_like 11 = .ok (.iaload, 1) := by decide +kernel
theorem dX8_like_12 : decode cX8_like 12 = .ok (.iand, 1) := by decide +kernel
theorem dX8_like_13 : decode cX8_like 13 = .ok (.invokestatic 146, 3) := by decide +kernel
theorem dX8_like_16 : decode cX8_like 16 = .ok (.ireturn, 1) := by decide +kernel
theorem dX8_precedentOf_0 : decode cX8_precedentOf 0 = .ok (.iconst (-1), 1) := by decide +kernel
theorem dX8_precedentOf_1 : decode cX8_precedentOf 1 = .ok (.istore_n 2, 1) := by decide +kernel
theorem dX8_precedentOf_2 : decode cX8_precedentOf 2 = .ok (.iconst 0, 1) := by decide +kernel
theorem dX8_precedentOf_3 : decode cX8_precedentOf 3 = .ok (.istore_n 3, 1) := by decide +kernel
theorem dX8_precedentOf_4 : decode cX8_precedentOf 4 = .ok (.iload_n 3, 1) := by decide +kernel
theorem dX8_precedentOf_5 : decode cX8_precedentOf 5 = .ok (.aload_n 0, 1) := by decide +kernel
theorem dX8_precedentOf_6 : decode cX8_precedentOf 6 = .ok (.getfield 97, 3) := by decide +kernel
theorem dX8_precedentOf_9 : decode cX8_precedentOf 9 = .ok (.if_icmp .ge 98, 3) := by decide +kernel
theorem dX8_precedentOf_12 : decode cX8_precedentOf 12 = .ok (.iload_n 3, 1) := by decide +kernel
theorem dX8_precedentOf_13 : decode cX8_precedentOf 13 = .ok (.iload_n 1, 1) := by decide +kernel
theorem dX8_precedentOf_14 : decode cX8_precedentOf 14 = .ok (.if_icmp .eq 87, 3) := by decide +kernel
theorem dX8_precedentOf_17 : decode cX8_precedentOf 17 = .ok (.aload_n 0, 1) := by decide +kernel
theorem dX8_precedentOf_18 : decode cX8_precedentOf 18 = .ok (.iload_n 3, 1) := by decide +kernel
theorem dX8_precedentOf_19 : decode cX8_precedentOf 19 = .ok (.bipush 103, 2) := by decide +kernel
theorem dX8_precedentOf_21 : decode cX8_precedentOf 21 = .ok (.invokevirtual 133, 3) := by decide +kernel
theorem dX8_precedentOf_24 : decode cX8_precedentOf 24 = .ok (.ifCond .ne 13, 3) := by decide +kernel
theorem dX8_precedentOf_27 : decode cX8_precedentOf 27 = .ok (.aload_n 0, 1) := by decide +kernel
theorem dX8_precedentOf_28 : decode cX8_precedentOf 28 = .ok (.iload_n 3, 1) := by decide +kernel
theorem dX8_precedentOf_29 : decode cX8_precedentOf 29 = .ok (.bipush 105, 2) := by decide +kernel
theorem dX8_precedentOf_31 : decode cX8_precedentOf 31 = .ok (.invokevirtual 133, 3) := by decide +kernel
theorem dX8_precedentOf_34 : decode cX8_precedentOf 34 = .ok (.ifCond .eq 67, 3) := by decide +kernel
theorem dX8_precedentOf_37 : decode cX8_precedentOf 37 = .ok (.aload_n 0, 1) := by decide +kernel
theorem dX8_precedentOf_38 : decode cX8_precedentOf 38 = .ok (.iload_n 1, 1) := by decide +kernel
theorem dX8_precedentOf_39 : decode cX8_precedentOf 39 = .ok (.iload_n 3, 1) := by decide +kernel
theorem dX8_precedentOf_40 : decode cX8_precedentOf 40 = .ok (.invokevirtual 149, 3) := by decide +kernel
theorem dX8_precedentOf_43 : decode cX8_precedentOf 43 = .ok (.iconst 2, 1) := by decide +kernel
theorem dX8_precedentOf_44 : decode cX8_precedentOf 44 = .ok (.if_icmp .ge 6, 3) := by decide +kernel
theorem dX8_precedentOf_47 : decode cX8_precedentOf 47 = .ok (.goto 54, 3) := by decide +kernel
theorem dX8_precedentOf_50 : decode cX8_precedentOf 50 = .ok (.iload_n 2, 1) := by decide +kernel
theorem dX8_precedentOf_51 : decode cX8_precedentOf 51 = .ok (.ifCond .lt 48, 3) := by decide +kernel
theorem dX8_precedentOf_54 : decode cX8_precedentOf 54 = .ok (.aload_n 0, 1) := by decide +kernel
theorem dX8_precedentOf_55 : decode cX8_precedentOf 55 = .ok (.iload_n 1, 1) := by decide +kernel
theorem dX8_precedentOf_56 : decode cX8_precedentOf 56 = .ok (.iload_n 3, 1) := by decide +kernel
theorem dX8_precedentOf_57 : decode cX8_precedentOf 57 = .ok (.invokevirtual 149, 3) := by decide +kernel
theorem dX8_precedentOf_60 : decode cX8_precedentOf 60 = .ok (.aload_n 0, 1) := by decide +kernel
theorem dX8_precedentOf_61 : decode cX8_precedentOf 61 = .ok (.iload_n 1, 1) := by decide +kernel
theorem dX8_precedentOf_62 : decode cX8_precedentOf 62 = .ok (.iload_n 2, 1) := by decide +kernel
theorem dX8_precedentOf_63 : decode cX8_precedentOf 63 = .ok (.invokevirtual 149, 3) := by decide +kernel
theorem dX8_precedentOf_66 : decode cX8_precedentOf 66 = .ok (.if_icmp .gt 33, 3) := by decide +kernel
theorem dX8_precedentOf_69 : decode cX8_precedentOf 69 = .ok (.aload_n 0, 1) := by decide +kernel
theorem dX8_precedentOf_70 : decode cX8_precedentOf 70 = .ok (.iload_n 1, 1) := by decide +kernel
theorem dX8_precedentOf_71 : decode cX8_precedentOf 71 = .ok (.iload_n 3, 1) := by decide +kernel
theorem dX8_precedentOf_72 : decode cX8_precedentOf 72 = .ok (.invokevirtual 149, 3) := by decide +kernel
theorem dX8_precedentOf_75 : decode cX8_precedentOf 75 = .ok (.aload_n 0, 1) := by decide +kernel
theorem dX8_precedentOf_76 : decode cX8_precedentOf 76 = .ok (.iload_n 1, 1) := by decide +kernel
theorem dX8_precedentOf_77 : decode cX8_precedentOf 77 = .ok (.iload_n 2, 1) := by decide +kernel
theorem dX8_precedentOf_78 : decode cX8_precedentOf 78 = .ok (.invokevirtual 149, 3) := by decide +kernel
theorem dX8_precedentOf_81 : decode cX8_precedentOf 81 = .ok (.if_icmp .ne 20, 3) := by decide +kernel
theorem dX8_precedentOf_84 : decode cX8_precedentOf 84 = .ok (.aload_n 0, 1) := by decide +kernel
theorem dX8_precedentOf_85 : decode cX8_precedentOf 85 = .ok (.getfield 57, 3) := by decide +kernel
theorem dX8_precedentOf_88 : decode cX8_precedentOf 88 = .ok (.iload_n 3, 1) := by decide +kernel
theorem dX8_precedentOf_89 : decode cX8_precedentOf 89 = .ok (.iaload, 1) := by decide +kernel
theorem dX8_precedentOf_90 : decode cX8_precedentOf 90 = .ok (.aload_n 0, 1) := by decide +kernel
theorem dX8_precedentOf_91 : decode cX8_precedentOf 91 = .ok (.getfield 57, 3) := by decide +kernel
theorem dX8_precedentOf_94 : decode cX8_precedentOf 94 = .ok (.iload_n 2, 1) := by decide +kernel
theorem dX8_precedentOf_95 : decode cX8_precedentOf 95 = .ok (.iaload, 1) := by decide +kernel
theorem dX8_precedentOf_96 : decode cX8_precedentOf 96 = .ok (.if_icmp .le 5, 3) := by decide +kernel
theorem dX8_precedentOf_99 : decode cX8_precedentOf 99 = .ok (.iload_n 3, 1) := by decide +kernel
theorem dX8_precedentOf_100 : decode cX8_precedentOf 100 = .ok (.istore_n 2, 1) := by decide +kernel
theorem dX8_precedentOf_101 : decode cX8_precedentOf 101 = .ok (.iinc 3 1, 3) := by decide +kernel
theorem dX8_precedentOf_104 : decode cX8_precedentOf 104 = .ok (.goto (-100), 3) := by decide +kernel
theorem dX8_precedentOf_107 : decode cX8_precedentOf 107 = .ok (.iload_n 2, 1) := by decide +kernel
theorem dX8_precedentOf_108 : decode cX8_precedentOf 108 = .ok (.ireturn, 1) := by decide +kernel
theorem dX8_outcomeBy_0 : decode cX8_outcomeBy 0 = .ok (.aload_n 0, 1) := by decide +kernel
theorem dX8_outcomeBy_1 : decode cX8_outcomeBy 1 = .ok (.iload_n 1, 1) := by decide +kernel
theorem dX8_outcomeBy_2 : decode cX8_outcomeBy 2 = .ok (.invokevirtual 127, 3) := by decide +kernel
theorem dX8_outcomeBy_5 : decode cX8_outcomeBy 5 = .ok (.istore 4, 2) := by decide +kernel
theorem dX8_outcomeBy_7 : decode cX8_outcomeBy 7 = .ok (.iload 4, 2) := by decide +kernel
theorem dX8_outcomeBy_9 : decode cX8_outcomeBy 9 = .ok (.ifCond .ge 6, 3) := by decide +kernel
theorem dX8_outcomeBy_12 : decode cX8_outcomeBy 12 = .ok (.bipush 110, 2) := by decide +kernel
theorem dX8_outcomeBy_14 : decode cX8_outcomeBy 14 = .ok (.ireturn, 1) := by decide +kernel
theorem dX8_outcomeBy_15 : decode cX8_outcomeBy 15 = .ok (.aload_n 0, 1) := by decide +kernel
theorem dX8_outcomeBy_16 : decode cX8_outcomeBy 16 = .ok (.getfield 34, 3) := by decide +kernel
theorem dX8_outcomeBy_19 : decode cX8_outcomeBy 19 = .ok (.iload 4, 2) := by decide +kernel
theorem dX8_outcomeBy_21 : decode cX8_outcomeBy 21 = .ok (.baload, 1) := by decide +kernel
theorem dX8_outcomeBy_22 : decode cX8_outcomeBy 22 = .ok (.ifCond .ne 6, 3) := by decide +kernel
theorem dX8_outcomeBy_25 : decode cX8_outcomeBy 25 = .ok (.bipush 119, 2) := by decide +kernel
theorem dX8_outcomeBy_27 : decode cX8_outcomeBy 27 = .ok (.ireturn, 1) := by decide +kernel
theorem dX8_outcomeBy_28 : decode cX8_outcomeBy 28 = .ok (.aload_n 0, 1) := by decide +kernel
theorem dX8_outcomeBy_29 : decode cX8_outcomeBy 29 = .ok (.iload_n 1, 1) := by decide +kernel
theorem dX8_outcomeBy_30 : decode cX8_outcomeBy 30 = .ok (.invokevirtual 152, 3) := by decide +kernel
theorem dX8_outcomeBy_33 : decode cX8_outcomeBy 33 = .ok (.istore 5, 2) := by decide +kernel
theorem dX8_outcomeBy_35 : decode cX8_outcomeBy 35 = .ok (.iload 5, 2) := by decide +kernel
theorem dX8_outcomeBy_37 : decode cX8_outcomeBy 37 = .ok (.ifCond .lt 19, 3) := by decide +kernel
theorem dX8_outcomeBy_40 : decode cX8_outcomeBy 40 = .ok (.aload_n 0, 1) := by decide +kernel
theorem dX8_outcomeBy_41 : decode cX8_outcomeBy 41 = .ok (.getfield 73, 3) := by decide +kernel
theorem dX8_outcomeBy_44 : decode cX8_outcomeBy 44 = .ok (.iload 5, 2) := by decide +kernel
theorem dX8_outcomeBy_46 : decode cX8_outcomeBy 46 = .ok (.caload, 1) := by decide +kernel
theorem dX8_outcomeBy_47 : decode cX8_outcomeBy 47 = .ok (.bipush 103, 2) := by decide +kernel
theorem dX8_outcomeBy_49 : decode cX8_outcomeBy 49 = .ok (.if_icmp .ne 7, 3) := by decide +kernel
theorem dX8_outcomeBy_52 : decode cX8_outcomeBy 52 = .ok (.iconst 5, 1) := by decide +kernel
theorem dX8_outcomeBy_53 : decode cX8_outcomeBy 53 = .ok (.goto 4, 3) := by decide +kernel
theorem dX8_outcomeBy_56 : decode cX8_outcomeBy 56 = .ok (.iconst 0, 1) := by decide +kernel
theorem dX8_outcomeBy_57 : decode cX8_outcomeBy 57 = .ok (.istore 6, 2) := by decide +kernel
theorem dX8_outcomeBy_59 : decode cX8_outcomeBy 59 = .ok (.iload 5, 2) := by decide +kernel
theorem dX8_outcomeBy_61 : decode cX8_outcomeBy 61 = .ok (.ifCond .lt 19, 3) := by decide +kernel
theorem dX8_outcomeBy_64 : decode cX8_outcomeBy 64 = .ok (.aload_n 0, 1) := by decide +kernel
theorem dX8_outcomeBy_65 : decode cX8_outcomeBy 65 = .ok (.getfield 73, 3) := by decide +kernel
theorem dX8_outcomeBy_68 : decode cX8_outcomeBy 68 = .ok (.iload 5, 2) := by decide +kernel
theorem dX8_outcomeBy_70 : decode cX8_outcomeBy 70 = .ok (.caload, 1) := by decide +kernel
theorem dX8_outcomeBy_71 : decode cX8_outcomeBy 71 = .ok (.bipush 105, 2) := by decide +kernel
theorem dX8_outcomeBy_73 : decode cX8_outcomeBy 73 = .ok (.if_icmp .ne 7, 3) := by decide +kernel
theorem dX8_outcomeBy_76 : decode cX8_outcomeBy 76 = .ok (.iconst 5, 1) := by decide +kernel
theorem dX8_outcomeBy_77 : decode cX8_outcomeBy 77 = .ok (.goto 4, 3) := by decide +kernel
theorem dX8_outcomeBy_80 : decode cX8_outcomeBy 80 = .ok (.iconst 0, 1) := by decide +kernel
theorem dX8_outcomeBy_81 : decode cX8_outcomeBy 81 = .ok (.istore 7, 2) := by decide +kernel
theorem dX8_outcomeBy_83 : decode cX8_outcomeBy 83 = .ok (.iload_n 2, 1) := by decide +kernel
theorem dX8_outcomeBy_84 : decode cX8_outcomeBy 84 = .ok (.iload 6, 2) := by decide +kernel
theorem dX8_outcomeBy_86 : decode cX8_outcomeBy 86 = .ok (.iadd, 1) := by decide +kernel
theorem dX8_outcomeBy_87 : decode cX8_outcomeBy 87 = .ok (.iload_n 3, 1) := by decide +kernel
theorem dX8_outcomeBy_88 : decode cX8_outcomeBy 88 = .ok (.iload 7, 2) := by decide +kernel
theorem dX8_outcomeBy_90 : decode cX8_outcomeBy 90 = .ok (.iadd, 1) := by decide +kernel
theorem dX8_outcomeBy_91 : decode cX8_outcomeBy 91 = .ok (.if_icmp .le 8, 3) := by decide +kernel
theorem dX8_outcomeBy_94 : decode cX8_outcomeBy 94 = .ok (.bipush 103, 2) := by decide +kernel
theorem dX8_outcomeBy_96 : decode cX8_outcomeBy 96 = .ok (.goto 5, 3) := by decide +kernel
theorem dX8_outcomeBy_99 : decode cX8_outcomeBy 99 = .ok (.bipush 105, 2) := by decide +kernel
theorem dX8_outcomeBy_101 : decode cX8_outcomeBy 101 = .ok (.ireturn, 1) := by decide +kernel
theorem dX8_decides_0 : decode cX8_decides 0 = .ok (.aload_n 0, 1) := by decide +kernel
theorem dX8_decides_1 : decode cX8_decides 1 = .ok (.getfield 73, 3) := by decide +kernel
theorem dX8_decides_4 : decode cX8_decides 4 = .ok (.iload_n 1, 1) := by decide +kernel
theorem dX8_decides_5 : decode cX8_decides 5 = .ok (.aload_n 0, 1) := by decide +kernel
theorem dX8_decides_6 : decode cX8_decides 6 = .ok (.iload_n 1, 1) := by decide +kernel
theorem dX8_decides_7 : decode cX8_decides 7 = .ok (.iload_n 2, 1) := by decide +kernel
theorem dX8_decides_8 : decode cX8_decides 8 = .ok (.iload_n 3, 1) := by decide +kernel
theorem dX8_decides_9 : decode cX8_decides 9 = .ok (.invokevirtual 155, 3) := by decide +kernel
theorem dX8_decides_12 : decode cX8_decides 12 = .ok (.castore, 1) := by decide +kernel
theorem dX8_decides_13 : decode cX8_decides 13 = .ok (.aload_n 0, 1) := by decide +kernel
theorem dX8_decides_14 : decode cX8_decides 14 = .ok (.getfield 69, 3) := by decide +kernel
theorem dX8_decides_17 : decode cX8_decides 17 = .ok (.iload_n 1, 1) := by decide +kernel
theorem dX8_decides_18 : decode cX8_decides 18 = .ok (.bipush 100, 2) := by decide +kernel
theorem dX8_decides_20 : decode cX8_decides 20 = .ok (.castore, 1) := by decide +kernel
theorem dX8_decides_21 : decode cX8_decides 21 = .ok (.aload_n 0, 1) := by decide +kernel
theorem dX8_decides_22 : decode cX8_decides 22 = .ok (.getfield 60, 3) := by decide +kernel
theorem dX8_decides_25 : decode cX8_decides 25 = .ok (.iload_n 1, 1) := by decide +kernel
theorem dX8_decides_26 : decode cX8_decides 26 = .ok (.iload 4, 2) := by decide +kernel
theorem dX8_decides_28 : decode cX8_decides 28 = .ok (.iastore, 1) := by decide +kernel
theorem dX8_decides_29 : decode cX8_decides 29 = .ok (.aload_n 0, 1) := by decide +kernel
theorem dX8_decides_30 : decode cX8_decides 30 = .ok (.getfield 57, 3) := by decide +kernel
theorem dX8_decides_33 : decode cX8_decides 33 = .ok (.iload_n 1, 1) := by decide +kernel
theorem dX8_decides_34 : decode cX8_decides 34 = .ok (.aload_n 0, 1) := by decide +kernel
theorem dX8_decides_35 : decode cX8_decides 35 = .ok (.getfield 159, 3) := by decide +kernel
theorem dX8_decides_38 : decode cX8_decides 38 = .ok (.iastore, 1) := by decide +kernel
theorem dX8_decides_39 : decode cX8_decides 39 = .ok (.aload_n 0, 1) := by decide +kernel
theorem dX8_decides_40 : decode cX8_decides 40 = .ok (.dup, 1) := by decide +kernel
theorem dX8_decides_41 : decode cX8_decides 41 = .ok (.getfield 159, 3) := by decide +kernel
theorem dX8_decides_44 : decode cX8_decides 44 = .ok (.iconst 1, 1) := by decide +kernel
theorem dX8_decides_45 : decode cX8_decides 45 = .ok (.iadd, 1) := by decide +kernel
theorem dX8_decides_46 : decode cX8_decides 46 = .ok (.putfield 159, 3) := by decide +kernel
theorem dX8_decides_49 : decode cX8_decides 49 = .ok (.aload_n 0, 1) := by decide +kernel
theorem dX8_decides_50 : decode cX8_decides 50 = .ok (.getfield 73, 3) := by decide +kernel
theorem dX8_decides_53 : decode cX8_decides 53 = .ok (.iload_n 1, 1) := by decide +kernel
theorem dX8_decides_54 : decode cX8_decides 54 = .ok (.caload, 1) := by decide +kernel
theorem dX8_decides_55 : decode cX8_decides 55 = .ok (.bipush 103, 2) := by decide +kernel
theorem dX8_decides_57 : decode cX8_decides 57 = .ok (.if_icmp .eq 4, 3) := by decide +kernel
theorem dX8_decides_60 : decode cX8_decides 60 = .ok (.return_, 1) := by decide +kernel
theorem dX8_decides_61 : decode cX8_decides 61 = .ok (.aload_n 0, 1) := by decide +kernel
theorem dX8_decides_62 : decode cX8_decides 62 = .ok (.getfield 63, 3) := by decide +kernel
theorem dX8_decides_65 : decode cX8_decides 65 = .ok (.iload_n 1, 1) := by decide +kernel
theorem dX8_decides_66 : decode cX8_decides 66 = .ok (.aload_n 0, 1) := by decide +kernel
theorem dX8_decides_67 : decode cX8_decides 67 = .ok (.getfield 100, 3) := by decide +kernel
theorem dX8_decides_70 : decode cX8_decides 70 = .ok (.iastore, 1) := by decide +kernel
theorem dX8_decides_71 : decode cX8_decides 71 = .ok (.aload_n 0, 1) := by decide +kernel
theorem dX8_decides_72 : decode cX8_decides 72 = .ok (.getfield 66, 3) := by decide +kernel
theorem dX8_decides_75 : decode cX8_decides 75 = .ok (.iload_n 1, 1) := by decide +kernel
theorem dX8_decides_76 : decode cX8_decides 76 = .ok (.aload_n 0, 1) := by decide +kernel
theorem dX8_decides_77 : decode cX8_decides 77 = .ok (.getfield 100, 3) := by decide +kernel
theorem dX8_decides_80 : decode cX8_decides 80 = .ok (.aload_n 0, 1) := by decide +kernel
theorem dX8_decides_81 : decode cX8_decides 81 = .ok (.getfield 16, 3) := by decide +kernel
theorem dX8_decides_84 : decode cX8_decides 84 = .ok (.aload_n 0, 1) := by decide +kernel
theorem dX8_decides_85 : decode cX8_decides 85 = .ok (.iload_n 1, 1) := by decide +kernel
theorem dX8_decides_86 : decode cX8_decides 86 = .ok (.invokevirtual 127, 3) := by decide +kernel
theorem dX8_decides_89 : decode cX8_decides 89 = .ok (.iaload, 1) := by decide +kernel
theorem dX8_decides_90 : decode cX8_decides 90 = .ok (.iadd, 1) := by decide +kernel
theorem dX8_decides_91 : decode cX8_decides 91 = .ok (.iastore, 1) := by decide +kernel
theorem dX8_decides_92 : decode cX8_decides 92 = .ok (.return_, 1) := by decide +kernel
theorem dX8_file_0 : decode cX8_file 0 = .ok (.aload_n 0, 1) := by decide +kernel
theorem dX8_file_1 : decode cX8_file 1 = .ok (.iconst 0, 1) := by decide +kernel
theorem dX8_file_2 : decode cX8_file 2 = .ok (.putfield 84, 3) := by decide +kernel
theorem dX8_file_5 : decode cX8_file 5 = .ok (.aload_n 0, 1) := by decide +kernel
theorem dX8_file_6 : decode cX8_file 6 = .ok (.iload_n 1, 1) := by decide +kernel
theorem dX8_file_7 : decode cX8_file 7 = .ok (.invokevirtual 130, 3) := by decide +kernel
theorem dX8_file_10 : decode cX8_file 10 = .ok (.ifCond .eq 11, 3) := by decide +kernel
theorem dX8_file_13 : decode cX8_file 13 = .ok (.aload_n 0, 1) := by decide +kernel
theorem dX8_file_14 : decode cX8_file 14 = .ok (.iload_n 2, 1) := by decide +kernel
theorem dX8_file_15 : decode cX8_file 15 = .ok (.invokevirtual 130, 3) := by decide +kernel
theorem dX8_file_18 : decode cX8_file 18 = .ok (.ifCond .ne 9, 3) := by decide +kernel
theorem dX8_file_21 : decode cX8_file 21 = .ok (.aload_n 0, 1) := by decide +kernel
theorem dX8_file_22 : decode cX8_file 22 = .ok (.iconst 1, 1) := by decide +kernel
theorem dX8_file_23 : decode cX8_file 23 = .ok (.invokevirtual 103, 3) := by decide +kernel
theorem dX8_file_26 : decode cX8_file 26 = .ok (.ireturn, 1) := by decide +kernel
theorem dX8_file_27 : decode cX8_file 27 = .ok (.iload_n 1, 1) := by decide +kernel
theorem dX8_file_28 : decode cX8_file 28 = .ok (.iload_n 2, 1) := by decide +kernel
theorem dX8_file_29 : decode cX8_file 29 = .ok (.if_icmp .eq 25, 3) := by decide +kernel
theorem dX8_file_32 : decode cX8_file 32 = .ok (.iload_n 3, 1) := by decide +kernel
theorem dX8_file_33 : decode cX8_file 33 = .ok (.iconst 1, 1) := by decide +kernel
theorem dX8_file_34 : decode cX8_file 34 = .ok (.sipush 255, 3) := by decide +kernel
theorem dX8_file_37 : decode cX8_file 37 = .ok (.invokestatic 90, 3) := by decide +kernel
theorem dX8_file_40 : decode cX8_file 40 = .ok (.ifCond .eq 14, 3) := by decide +kernel
theorem dX8_file_43 : decode cX8_file 43 = .ok (.iload 4, 2) := by decide +kernel
theorem dX8_file_45 : decode cX8_file 45 = .ok (.iconst 0, 1) := by decide +kernel
theorem dX8_file_46 : decode cX8_file 46 = .ok (.bipush 100, 2) := by decide +kernel
theorem dX8_file_48 : decode cX8_file 48 = .ok (.invokestatic 90, 3) := by decide +kernel
theorem dX8_file_51 : decode cX8_file 51 = .ok (.ifCond .ne 9, 3) := by decide +kernel
theorem dX8_file_54 : decode cX8_file 54 = .ok (.aload_n 0, 1) := by decide +kernel
theorem dX8_file_55 : decode cX8_file 55 = .ok (.iconst 2, 1) := by decide +kernel
theorem dX8_file_56 : decode cX8_file 56 = .ok (.invokevirtual 103, 3) := by decide +kernel
theorem dX8_file_59 : decode cX8_file 59 = .ok (.ireturn, 1) := by decide +kernel
theorem dX8_file_60 : decode cX8_file 60 = .ok (.aload_n 0, 1) := by decide +kernel
theorem dX8_file_61 : decode cX8_file 61 = .ok (.getfield 97, 3) := by decide +kernel
theorem dX8_file_64 : decode cX8_file 64 = .ok (.bipush 20, 2) := by decide +kernel
theorem dX8_file_66 : decode cX8_file 66 = .ok (.if_icmp .ne 9, 3) := by decide +kernel
theorem dX8_file_69 : decode cX8_file 69 = .ok (.aload_n 0, 1) := by decide +kernel
theorem dX8_file_70 : decode cX8_file 70 = .ok (.iconst 3, 1) := by decide +kernel
theorem dX8_file_71 : decode cX8_file 71 = .ok (.invokevirtual 103, 3) := by decide +kernel
theorem dX8_file_74 : decode cX8_file 74 = .ok (.ireturn, 1) := by decide +kernel
theorem dX8_file_75 : decode cX8_file 75 = .ok (.aload_n 0, 1) := by decide +kernel
theorem dX8_file_76 : decode cX8_file 76 = .ok (.getfield 97, 3) := by decide +kernel
theorem dX8_file_79 : decode cX8_file 79 = .ok (.istore 5, 2) := by decide +kernel
theorem dX8_file_81 : decode cX8_file 81 = .ok (.aload_n 0, 1) := by decide +kernel
theorem dX8_file_82 : decode cX8_file 82 = .ok (.getfield 42, 3) := by decide +kernel
theorem dX8_file_85 : decode cX8_file 85 = .ok (.iload 5, 2) := by decide +kernel
theorem dX8_file_87 : decode cX8_file 87 = .ok (.iload_n 1, 1) := by decide +kernel
theorem dX8_file_88 : decode cX8_file 88 = .ok (.iastore, 1) := by decide +kernel
theorem dX8_file_89 : decode cX8_file 89 = .ok (.aload_n 0, 1) := by decide +kernel
theorem dX8_file_90 : decode cX8_file 90 = .ok (.getfield 45, 3) := by decide +kernel
theorem dX8_file_93 : decode cX8_file 93 = .ok (.iload 5, 2) := by decide +kernel
theorem dX8_file_95 : decode cX8_file 95 = .ok (.iload_n 2, 1) := by decide +kernel
theorem dX8_file_96 : decode cX8_file 96 = .ok (.iastore, 1) := by decide +kernel
theorem dX8_file_97 : decode cX8_file 97 = .ok (.aload_n 0, 1) := by decide +kernel
theorem dX8_file_98 : decode cX8_file 98 = .ok (.getfield 48, 3) := by decide +kernel
theorem dX8_file_101 : decode cX8_file 101 = .ok (.iload 5, 2) := by decide +kernel
theorem dX8_file_103 : decode cX8_file 103 = .ok (.iload_n 3, 1) := by decide +kernel
theorem dX8_file_104 : decode cX8_file 104 = .ok (.iastore, 1) := by decide +kernel
theorem dX8_file_105 : decode cX8_file 105 = .ok (.aload_n 0, 1) := by decide +kernel
theorem dX8_file_106 : decode cX8_file 106 = .ok (.getfield 51, 3) := by decide +kernel
theorem dX8_file_109 : decode cX8_file 109 = .ok (.iload 5, 2) := by decide +kernel
theorem dX8_file_111 : decode cX8_file 111 = .ok (.iload 4, 2) := by decide +kernel
theorem dX8_file_113 : decode cX8_file 113 = .ok (.iastore, 1) := by decide +kernel
theorem dX8_file_114 : decode cX8_file 114 = .ok (.aload_n 0, 1) := by decide +kernel
theorem dX8_file_115 : decode cX8_file 115 = .ok (.getfield 54, 3) := by decide +kernel
theorem dX8_file_118 : decode cX8_file 118 = .ok (.iload 5, 2) := by decide +kernel
theorem dX8_file_120 : decode cX8_file 120 = .ok (.aload_n 0, 1) := by decide +kernel
theorem dX8_file_121 : decode cX8_file 121 = .ok (.getfield 100, 3) := by decide +kernel
theorem dX8_file_124 : decode cX8_file 124 = .ok (.iastore, 1) := by decide +kernel
theorem dX8_file_125 : decode cX8_file 125 = .ok (.aload_n 0, 1) := by decide +kernel
theorem dX8_file_126 : decode cX8_file 126 = .ok (.getfield 69, 3) := by decide +kernel
theorem dX8_file_129 : decode cX8_file 129 = .ok (.iload 5, 2) := by decide +kernel
theorem dX8_file_131 : decode cX8_file 131 = .ok (.bipush 111, 2) := by decide +kernel
theorem dX8_file_133 : decode cX8_file 133 = .ok (.castore, 1) := by decide +kernel
theorem dX8_file_134 : decode cX8_file 134 = .ok (.aload_n 0, 1) := by decide +kernel
theorem dX8_file_135 : decode cX8_file 135 = .ok (.getfield 76, 3) := by decide +kernel
theorem dX8_file_138 : decode cX8_file 138 = .ok (.iload 5, 2) := by decide +kernel
theorem dX8_file_140 : decode cX8_file 140 = .ok (.bipush 45, 2) := by decide +kernel
theorem dX8_file_142 : decode cX8_file 142 = .ok (.castore, 1) := by decide +kernel
theorem dX8_file_143 : decode cX8_file 143 = .ok (.aload_n 0, 1) := by decide +kernel
theorem dX8_file_144 : decode cX8_file 144 = .ok (.dup, 1) := by decide +kernel
theorem dX8_file_145 : decode cX8_file 145 = .ok (.getfield 97, 3) := by decide +kernel
theorem dX8_file_148 : decode cX8_file 148 = .ok (.iconst 1, 1) := by decide +kernel
theorem dX8_file_149 : decode cX8_file 149 = .ok (.iadd, 1) := by decide +kernel
theorem dX8_file_150 : decode cX8_file 150 = .ok (.putfield 97, 3) := by decide +kernel
theorem dX8_file_153 : decode cX8_file 153 = .ok (.iconst 0, 1) := by decide +kernel
theorem dX8_file_154 : decode cX8_file 154 = .ok (.istore 6, 2) := by decide +kernel
theorem dX8_file_156 : decode cX8_file 156 = .ok (.iload 6, 2) := by decide +kernel
theorem dX8_file_158 : decode cX8_file 158 = .ok (.aload_n 0, 1) := by decide +kernel
theorem dX8_file_159 : decode cX8_file 159 = .ok (.getfield 143, 3) := by decide +kernel
theorem dX8_file_162 : decode cX8_file 162 = .ok (.if_icmp .ge 62, 3) := by decide +kernel
theorem dX8_file_165 : decode cX8_file 165 = .ok (.aload_n 0, 1) := by decide +kernel
theorem dX8_file_166 : decode cX8_file 166 = .ok (.getfield 69, 3) := by decide +kernel
theorem dX8_file_169 : decode cX8_file 169 = .ok (.iload 5, 2) := by decide +kernel
theorem dX8_file_171 : decode cX8_file 171 = .ok (.caload, 1) := by decide +kernel
theorem dX8_file_172 : decode cX8_file 172 = .ok (.bipush 111, 2) := by decide +kernel
theorem dX8_file_174 : decode cX8_file 174 = .ok (.if_icmp .ne 50, 3) := by decide +kernel
theorem dX8_file_177 : decode cX8_file 177 = .ok (.iload_n 3, 1) := by decide +kernel
theorem dX8_file_178 : decode cX8_file 178 = .ok (.aload_n 0, 1) := by decide +kernel
theorem dX8_file_179 : decode cX8_file 179 = .ok (.getfield 28, 3) := by decide +kernel
theorem dX8_file_182 : decode cX8_file 182 = .ok (.iload 6, 2) := by decide +kernel
theorem dX8_file_184 : decode cX8_file 184 = .ok (.iaload, 1) := by decide +kernel
theorem dX8_file_185 : decode cX8_file 185 = .ok (.ishr, 1) := by decide +kernel
theorem dX8_file_186 : decode cX8_file 186 = .ok (.iconst 1, 1) := by decide +kernel
theorem dX8_file_187 : decode cX8_file 187 = .ok (.iand, 1) := by decide +kernel
theorem dX8_file_188 : decode cX8_file 188 = .ok (.iconst 1, 1) := by decide +kernel
theorem dX8_file_189 : decode cX8_file 189 = .ok (.if_icmp .ne 29, 3) := by decide +kernel
theorem dX8_file_192 : decode cX8_file 192 = .ok (.aload_n 0, 1) := by decide +kernel
theorem dX8_file_193 : decode cX8_file 193 = .ok (.getfield 31, 3) := by decide +kernel
theorem dX8_file_196 : decode cX8_file 196 = .ok (.iload 6, 2) := by decide +kernel
theorem dX8_file_198 : decode cX8_file 198 = .ok (.iaload, 1) := by decide +kernel
theorem dX8_file_199 : decode cX8_file 199 = .ok (.iload 4, 2) := by decide +kernel
theorem dX8_file_201 : decode cX8_file 201 = .ok (.if_icmp .gt 17, 3) := by decide +kernel
theorem dX8_file_204 : decode cX8_file 204 = .ok (.aload_n 0, 1) := by decide +kernel
theorem dX8_file_205 : decode cX8_file 205 = .ok (.iload 5, 2) := by decide +kernel
theorem dX8_file_207 : decode cX8_file 207 = .ok (.iload 4, 2) := by decide +kernel
theorem dX8_file_209 : decode cX8_file 209 = .ok (.bipush 10, 2) := by decide +kernel
theorem dX8_file_211 : decode cX8_file 211 = .ok (.idiv, 1) := by decide +kernel
theorem dX8_file_212 : decode cX8_file 212 = .ok (.iconst 0, 1) := by decide +kernel
theorem dX8_file_213 : decode cX8_file 213 = .ok (.iload 6, 2) := by decide +kernel
theorem dX8_file_215 : decode cX8_file 215 = .ok (.invokevirtual 162, 3) := by decide +kernel
theorem dX8_file_218 : decode cX8_file 218 = .ok (.iinc 6 1, 3) := by decide +kernel
theorem dX8_file_221 : decode cX8_file 221 = .ok (.goto (-65), 3) := by decide +kernel
theorem dX8_file_224 : decode cX8_file 224 = .ok (.iload 5, 2) := by decide +kernel
theorem dX8_file_226 : decode cX8_file 226 = .ok (.ireturn, 1) := by decide +kernel
theorem dX8_state_0 : decode cX8_state 0 = .ok (.aload_n 0, 1) := by decide +kernel
theorem dX8_state_1 : decode cX8_state 1 = .ok (.iconst 0, 1) := by decide +kernel
theorem dX8_state_2 : decode cX8_state 2 = .ok (.putfield 84, 3) := by decide +kernel
theorem dX8_state_5 : decode cX8_state 5 = .ok (.aload_n 0, 1) := by decide +kernel
theorem dX8_state_6 : decode cX8_state 6 = .ok (.iload_n 1, 1) := by decide +kernel
theorem dX8_state_7 : decode cX8_state 7 = .ok (.invokevirtual 124, 3) := by decide +kernel
theorem dX8_state_10 : decode cX8_state 10 = .ok (.ifCond .eq 12, 3) := by decide +kernel
theorem dX8_state_13 : decode cX8_state 13 = .ok (.aload_n 0, 1) := by decide +kernel
theorem dX8_state_14 : decode cX8_state 14 = .ok (.getfield 69, 3) := by decide +kernel
theorem dX8_state_17 : decode cX8_state 17 = .ok (.iload_n 1, 1) := by decide +kernel
theorem dX8_state_18 : decode cX8_state 18 = .ok (.caload, 1) := by decide +kernel
theorem dX8_state_19 : decode cX8_state 19 = .ok (.goto 9, 3) := by decide +kernel
theorem dX8_state_22 : decode cX8_state 22 = .ok (.aload_n 0, 1) := by decide +kernel
theorem dX8_state_23 : decode cX8_state 23 = .ok (.iconst 1, 1) := by decide +kernel
theorem dX8_state_24 : decode cX8_state 24 = .ok (.invokevirtual 103, 3) := by decide +kernel
theorem dX8_state_27 : decode cX8_state 27 = .ok (.i2c, 1) := by decide +kernel
theorem dX8_state_28 : decode cX8_state 28 = .ok (.ireturn, 1) := by decide +kernel
theorem dX8_weight_0 : decode cX8_weight 0 = .ok (.iconst 0, 1) := by decide +kernel
theorem dX8_weight_1 : decode cX8_weight 1 = .ok (.istore_n 3, 1) := by decide +kernel
theorem dX8_weight_2 : decode cX8_weight 2 = .ok (.iconst 0, 1) := by decide +kernel
theorem dX8_weight_3 : decode cX8_weight 3 = .ok (.istore 4, 2) := by decide +kernel
theorem dX8_weight_5 : decode cX8_weight 5 = .ok (.iload 4, 2) := by decide +kernel
theorem dX8_weight_7 : decode cX8_weight 7 = .ok (.aload_n 0, 1) := by decide +kernel
theorem dX8_weight_8 : decode cX8_weight 8 = .ok (.getfield 94, 3) := by decide +kernel
theorem dX8_weight_11 : decode cX8_weight 11 = .ok (.if_icmp .ge 27, 3) := by decide +kernel
theorem dX8_weight_14 : decode cX8_weight 14 = .ok (.iload_n 3, 1) := by decide +kernel
theorem dX8_weight_15 : decode cX8_weight 15 = .ok (.iconst 0, 1) := by decide +kernel
theorem dX8_weight_16 : decode cX8_weight 16 = .ok (.iload_n 2, 1) := by decide +kernel
theorem dX8_weight_17 : decode cX8_weight 17 = .ok (.aload_n 0, 1) := by decide +kernel
theorem dX8_weight_18 : decode cX8_weight 18 = .ok (.getfield 81, 3) := by decide +kernel
theorem dX8_weight_21 : decode cX8_weight 21 = .ok (.iload_n 1, 1) := by decide +kernel
theorem dX8_weight_22 : decode cX8_weight 22 = .ok (.aaload, 1) := by decide +kernel
theorem dX8_weight_23 : decode cX8_weight 23 = .ok (.iload 4, 2) := by decide +kernel
theorem dX8_weight_25 : decode cX8_weight 25 = .ok (.iaload, 1) := by decide +kernel
theorem dX8_weight_26 : decode cX8_weight 26 = .ok (.imul, 1) := by decide +kernel
theorem dX8_weight_27 : decode cX8_weight 27 = .ok (.invokestatic 114, 3) := by decide +kernel
theorem dX8_weight_30 : decode cX8_weight 30 = .ok (.iadd, 1) := by decide +kernel
theorem dX8_weight_31 : decode cX8_weight 31 = .ok (.istore_n 3, 1) := by decide +kernel
theorem dX8_weight_32 : decode cX8_weight 32 = .ok (.iinc 4 1, 3) := by decide +kernel
theorem dX8_weight_35 : decode cX8_weight 35 = .ok (.goto (-30), 3) := by decide +kernel
theorem dX8_weight_38 : decode cX8_weight 38 = .ok (.iload_n 3, 1) := by decide +kernel
theorem dX8_weight_39 : decode cX8_weight 39 = .ok (.ireturn, 1) := by decide +kernel
theorem dX8_vote_0 : decode cX8_vote 0 = .ok (.aload_n 0, 1) := by decide +kernel
theorem dX8_vote_1 : decode cX8_vote 1 = .ok (.iconst 0, 1) := by decide +kernel
theorem dX8_vote_2 : decode cX8_vote 2 = .ok (.putfield 84, 3) := by decide +kernel
theorem dX8_vote_5 : decode cX8_vote 5 = .ok (.aload_n 0, 1) := by decide +kernel
theorem dX8_vote_6 : decode cX8_vote 6 = .ok (.iload_n 1, 1) := by decide +kernel
theorem dX8_vote_7 : decode cX8_vote 7 = .ok (.invokevirtual 124, 3) := by decide +kernel
theorem dX8_vote_10 : decode cX8_vote 10 = .ok (.ifCond .eq 11, 3) := by decide +kernel
theorem dX8_vote_13 : decode cX8_vote 13 = .ok (.aload_n 0, 1) := by decide +kernel
theorem dX8_vote_14 : decode cX8_vote 14 = .ok (.iload_n 2, 1) := by decide +kernel
theorem dX8_vote_15 : decode cX8_vote 15 = .ok (.invokevirtual 130, 3) := by decide +kernel
theorem dX8_vote_18 : decode cX8_vote 18 = .ok (.ifCond .ne 9, 3) := by decide +kernel
theorem dX8_vote_21 : decode cX8_vote 21 = .ok (.aload_n 0, 1) := by decide +kernel
theorem dX8_vote_22 : decode cX8_vote 22 = .ok (.iconst 1, 1) := by decide +kernel
theorem dX8_vote_23 : decode cX8_vote 23 = .ok (.invokevirtual 103, 3) := by decide +kernel
theorem dX8_vote_26 : decode cX8_vote 26 = .ok (.ireturn, 1) := by decide +kernel
theorem dX8_vote_27 : decode cX8_vote 27 = .ok (.aload_n 0, 1) := by decide +kernel
theorem dX8_vote_28 : decode cX8_vote 28 = .ok (.getfield 69, 3) := by decide +kernel
theorem dX8_vote_31 : decode cX8_vote 31 = .ok (.iload_n 1, 1) := by decide +kernel
theorem dX8_vote_32 : decode cX8_vote 32 = .ok (.caload, 1) := by decide +kernel
theorem dX8_vote_33 : decode cX8_vote 33 = .ok (.bipush 100, 2) := by decide +kernel
theorem dX8_vote_35 : decode cX8_vote 35 = .ok (.if_icmp .ne 9, 3) := by decide +kernel
theorem dX8_vote_38 : decode cX8_vote 38 = .ok (.aload_n 0, 1) := by decide +kernel
theorem dX8_vote_39 : decode cX8_vote 39 = .ok (.iconst 2, 1) := by decide +kernel
theorem dX8_vote_40 : decode cX8_vote 40 = .ok (.invokevirtual 103, 3) := by decide +kernel
theorem dX8_vote_43 : decode cX8_vote 43 = .ok (.ireturn, 1) := by decide +kernel
theorem dX8_vote_44 : decode cX8_vote 44 = .ok (.iload_n 2, 1) := by decide +kernel
theorem dX8_vote_45 : decode cX8_vote 45 = .ok (.aload_n 0, 1) := by decide +kernel
theorem dX8_vote_46 : decode cX8_vote 46 = .ok (.getfield 42, 3) := by decide +kernel
theorem dX8_vote_49 : decode cX8_vote 49 = .ok (.iload_n 1, 1) := by decide +kernel
theorem dX8_vote_50 : decode cX8_vote 50 = .ok (.iaload, 1) := by decide +kernel
theorem dX8_vote_51 : decode cX8_vote 51 = .ok (.if_icmp .eq 21, 3) := by decide +kernel
theorem dX8_vote_54 : decode cX8_vote 54 = .ok (.iload_n 2, 1) := by decide +kernel
theorem dX8_vote_55 : decode cX8_vote 55 = .ok (.aload_n 0, 1) := by decide +kernel
theorem dX8_vote_56 : decode cX8_vote 56 = .ok (.getfield 45, 3) := by decide +kernel
theorem dX8_vote_59 : decode cX8_vote 59 = .ok (.iload_n 1, 1) := by decide +kernel
theorem dX8_vote_60 : decode cX8_vote 60 = .ok (.iaload, 1) := by decide +kernel
theorem dX8_vote_61 : decode cX8_vote 61 = .ok (.if_icmp .eq 11, 3) := by decide +kernel
theorem dX8_vote_64 : decode cX8_vote 64 = .ok (.aload_n 0, 1) := by decide +kernel
theorem dX8_vote_65 : decode cX8_vote 65 = .ok (.iload_n 2, 1) := by decide +kernel
theorem dX8_vote_66 : decode cX8_vote 66 = .ok (.invokevirtual 140, 3) := by decide +kernel
theorem dX8_vote_69 : decode cX8_vote 69 = .ok (.ifCond .le 9, 3) := by decide +kernel
theorem dX8_vote_72 : decode cX8_vote 72 = .ok (.aload_n 0, 1) := by decide +kernel
theorem dX8_vote_73 : decode cX8_vote 73 = .ok (.iconst 3, 1) := by decide +kernel
theorem dX8_vote_74 : decode cX8_vote 74 = .ok (.invokevirtual 103, 3) := by decide +kernel
theorem dX8_vote_77 : decode cX8_vote 77 = .ok (.ireturn, 1) := by decide +kernel
theorem dX8_vote_78 : decode cX8_vote 78 = .ok (.aload_n 0, 1) := by decide +kernel
theorem dX8_vote_79 : decode cX8_vote 79 = .ok (.getfield 81, 3) := by decide +kernel
theorem dX8_vote_82 : decode cX8_vote 82 = .ok (.iload_n 1, 1) := by decide +kernel
theorem dX8_vote_83 : decode cX8_vote 83 = .ok (.aaload, 1) := by decide +kernel
theorem dX8_vote_84 : decode cX8_vote 84 = .ok (.iload_n 2, 1) := by decide +kernel
theorem dX8_vote_85 : decode cX8_vote 85 = .ok (.iload_n 3, 1) := by decide +kernel
theorem dX8_vote_86 : decode cX8_vote 86 = .ok (.ifCond .eq 12, 3) := by decide +kernel
theorem dX8_vote_89 : decode cX8_vote 89 = .ok (.aload_n 0, 1) := by decide +kernel
theorem dX8_vote_90 : decode cX8_vote 90 = .ok (.getfield 25, 3) := by decide +kernel
theorem dX8_vote_93 : decode cX8_vote 93 = .ok (.iload_n 2, 1) := by decide +kernel
theorem dX8_vote_94 : decode cX8_vote 94 = .ok (.iaload, 1) := by decide +kernel
theorem dX8_vote_95 : decode cX8_vote 95 = .ok (.goto 10, 3) := by decide +kernel
theorem dX8_vote_98 : decode cX8_vote 98 = .ok (.aload_n 0, 1) := by decide +kernel
theorem dX8_vote_99 : decode cX8_vote 99 = .ok (.getfield 25, 3) := by decide +kernel
theorem dX8_vote_102 : decode cX8_vote 102 = .ok (.iload_n 2, 1) := by decide +kernel
theorem dX8_vote_103 : decode cX8_vote 103 = .ok (.iaload, 1) := by decide +kernel
theorem dX8_vote_104 : decode cX8_vote 104 = .ok (.ineg, 1) := by decide +kernel
theorem dX8_vote_105 : decode cX8_vote 105 = .ok (.iastore, 1) := by decide +kernel
theorem dX8_vote_106 : decode cX8_vote 106 = .ok (.aload_n 0, 1) := by decide +kernel
theorem dX8_vote_107 : decode cX8_vote 107 = .ok (.iload_n 1, 1) := by decide +kernel
theorem dX8_vote_108 : decode cX8_vote 108 = .ok (.iconst 1, 1) := by decide +kernel
theorem dX8_vote_109 : decode cX8_vote 109 = .ok (.invokevirtual 166, 3) := by decide +kernel
theorem dX8_vote_112 : decode cX8_vote 112 = .ok (.aload_n 0, 1) := by decide +kernel
theorem dX8_vote_113 : decode cX8_vote 113 = .ok (.iload_n 1, 1) := by decide +kernel
theorem dX8_vote_114 : decode cX8_vote 114 = .ok (.iconst (-1), 1) := by decide +kernel
theorem dX8_vote_115 : decode cX8_vote 115 = .ok (.invokevirtual 166, 3) := by decide +kernel
theorem dX8_vote_118 : decode cX8_vote 118 = .ok (.iadd, 1) := by decide +kernel
theorem dX8_vote_119 : decode cX8_vote 119 = .ok (.ireturn, 1) := by decide +kernel
theorem dX8_isNone_0 : decode cX8_isNone 0 = .ok (.aload_n 0, 1) := by decide +kernel
theorem dX8_isNone_1 : decode cX8_isNone 1 = .ok (.aload_n 0, 1) := by decide +kernel
theorem dX8_isNone_2 : decode cX8_isNone 2 = .ok (.iload_n 1, 1) := by decide +kernel
theorem dX8_isNone_3 : decode cX8_isNone 3 = .ok (.invokevirtual 124, 3) := by decide +kernel
theorem dX8_isNone_6 : decode cX8_isNone 6 = .ok (.ifCond .eq 7, 3) := by decide +kernel
theorem dX8_isNone_9 : decode cX8_isNone 9 = .ok (.iconst 0, 1) := by decide +kernel
theorem dX8_isNone_10 : decode cX8_isNone 10 = .ok (.goto 4, 3) := by decide +kernel
theorem dX8_isNone_13 : decode cX8_isNone 13 = .ok (.iconst 1, 1) := by decide +kernel
theorem dX8_isNone_14 : decode cX8_isNone 14 = .ok (.putfield 84, 3) := by decide +kernel
theorem dX8_isNone_17 : decode cX8_isNone 17 = .ok (.aload_n 0, 1) := by decide +kernel
theorem dX8_isNone_18 : decode cX8_isNone 18 = .ok (.getfield 84, 3) := by decide +kernel
theorem dX8_isNone_21 : decode cX8_isNone 21 = .ok (.ifCond .le 7, 3) := by decide +kernel
theorem dX8_isNone_24 : decode cX8_isNone 24 = .ok (.iconst 1, 1) := by decide +kernel
theorem dX8_isNone_25 : decode cX8_isNone 25 = .ok (.goto 4, 3) := by decide +kernel
theorem dX8_isNone_28 : decode cX8_isNone 28 = .ok (.iconst 0, 1) := by decide +kernel
theorem dX8_isNone_29 : decode cX8_isNone 29 = .ok (.ireturn, 1) := by decide +kernel
theorem dX8_weightFor_0 : decode cX8_weightFor 0 = .ok (.aload_n 0, 1) := by decide +kernel
theorem dX8_weightFor_1 : decode cX8_weightFor 1 = .ok (.iload_n 1, 1) := by decide +kernel
theorem dX8_weightFor_2 : decode cX8_weightFor 2 = .ok (.invokevirtual 169, 3) := by decide +kernel
theorem dX8_weightFor_5 : decode cX8_weightFor 5 = .ok (.ifCond .eq 7, 3) := by decide +kernel
theorem dX8_weightFor_8 : decode cX8_weightFor 8 = .ok (.iconst 0, 1) := by decide +kernel
theorem dX8_weightFor_9 : decode cX8_weightFor 9 = .ok (.goto 9, 3) := by decide +kernel
theorem dX8_weightFor_12 : decode cX8_weightFor 12 = .ok (.aload_n 0, 1) := by decide +kernel
theorem dX8_weightFor_13 : decode cX8_weightFor 13 = .ok (.iload_n 1, 1) := by decide +kernel
theorem dX8_weightFor_14 : decode cX8_weightFor 14 = .ok (.iconst 1, 1) := by decide +kernel
theorem dX8_weightFor_15 : decode cX8_weightFor 15 = .ok (.invokevirtual 166, 3) := by decide +kernel
theorem dX8_weightFor_18 : decode cX8_weightFor 18 = .ok (.ireturn, 1) := by decide +kernel
theorem dX8_weightAgainst_0 : decode cX8_weightAgainst 0 = .ok (.aload_n 0, 1) := by decide +kernel
theorem dX8_weightAgainst_1 : decode cX8_weightAgainst 1 = .ok (.iload_n 1, 1) := by decide +kernel
theorem dX8_weightAgainst_2 : decode cX8_weightAgainst 2 = .ok (.invokevirtual 169, 3) := by decide +kernel
theorem dX8_weightAgainst_5 : decode cX8_weightAgainst 5 = .ok (.ifCond .eq 7, 3) := by decide +kernel
theorem dX8_weightAgainst_8 : decode cX8_weightAgainst 8 = .ok (.iconst 0, 1) := by decide +kernel
theorem dX8_weightAgainst_9 : decode cX8_weightAgainst 9 = .ok (.goto 9, 3) := by decide +kernel
theorem dX8_weightAgainst_12 : decode cX8_weightAgainst 12 = .ok (.aload_n 0, 1) := by decide +kernel
theorem dX8_weightAgainst_13 : decode cX8_weightAgainst 13 = .ok (.iload_n 1, 1) := by decide +kernel
theorem dX8_weightAgainst_14 : decode cX8_weightAgainst 14 = .ok (.iconst (-1), 1) := by decide +kernel
theorem dX8_weightAgainst_15 : decode cX8_weightAgainst 15 = .ok (.invokevirtual 166, 3) := by decide +kernel
theorem dX8_weightAgainst_18 : decode cX8_weightAgainst 18 = .ok (.ireturn, 1) := by decide +kernel
theorem dX8_setQuorum_0 : decode cX8_setQuorum 0 = .ok (.aload_n 0, 1) := by decide +kernel
theorem dX8_setQuorum_1 : decode cX8_setQuorum 1 = .ok (.iconst 0, 1) := by decide +kernel
theorem dX8_setQuorum_2 : decode cX8_setQuorum 2 = .ok (.putfield 84, 3) := by decide +kernel
theorem dX8_setQuorum_5 : decode cX8_setQuorum 5 = .ok (.iload_n 1, 1) := by decide +kernel
theorem dX8_setQuorum_6 : decode cX8_setQuorum 6 = .ok (.iconst 1, 1) := by decide +kernel
theorem dX8_setQuorum_7 : decode cX8_setQuorum 7 = .ok (.bipush 50, 2) := by decide +kernel
theorem dX8_setQuorum_9 : decode cX8_setQuorum 9 = .ok (.invokestatic 90, 3) := by decide +kernel
theorem dX8_setQuorum_12 : decode cX8_setQuorum 12 = .ok (.ifCond .ne 9, 3) := by decide +kernel
theorem dX8_setQuorum_15 : decode cX8_setQuorum 15 = .ok (.aload_n 0, 1) := by decide +kernel
theorem dX8_setQuorum_16 : decode cX8_setQuorum 16 = .ok (.iconst 1, 1) := by decide +kernel
theorem dX8_setQuorum_17 : decode cX8_setQuorum 17 = .ok (.invokevirtual 103, 3) := by decide +kernel
theorem dX8_setQuorum_20 : decode cX8_setQuorum 20 = .ok (.ireturn, 1) := by decide +kernel
theorem dX8_setQuorum_21 : decode cX8_setQuorum 21 = .ok (.aload_n 0, 1) := by decide +kernel
theorem dX8_setQuorum_22 : decode cX8_setQuorum 22 = .ok (.getfield 38, 3) := by decide +kernel
theorem dX8_setQuorum_25 : decode cX8_setQuorum 25 = .ok (.istore_n 2, 1) := by decide +kernel
theorem dX8_setQuorum_26 : decode cX8_setQuorum 26 = .ok (.aload_n 0, 1) := by decide +kernel
theorem dX8_setQuorum_27 : decode cX8_setQuorum 27 = .ok (.iload_n 1, 1) := by decide +kernel
theorem dX8_setQuorum_28 : decode cX8_setQuorum 28 = .ok (.putfield 38, 3) := by decide +kernel
theorem dX8_setQuorum_31 : decode cX8_setQuorum 31 = .ok (.iload_n 2, 1) := by decide +kernel
theorem dX8_setQuorum_32 : decode cX8_setQuorum 32 = .ok (.ireturn, 1) := by decide +kernel
theorem dX8_precedent_0 : decode cX8_precedent 0 = .ok (.aload_n 0, 1) := by decide +kernel
theorem dX8_precedent_1 : decode cX8_precedent 1 = .ok (.iload_n 1, 1) := by decide +kernel
theorem dX8_precedent_2 : decode cX8_precedent 2 = .ok (.invokevirtual 169, 3) := by decide +kernel
theorem dX8_precedent_5 : decode cX8_precedent 5 = .ok (.ifCond .eq 5, 3) := by decide +kernel
theorem dX8_precedent_8 : decode cX8_precedent 8 = .ok (.iconst 0, 1) := by decide +kernel
theorem dX8_precedent_9 : decode cX8_precedent 9 = .ok (.ireturn, 1) := by decide +kernel
theorem dX8_precedent_10 : decode cX8_precedent 10 = .ok (.aload_n 0, 1) := by decide +kernel
theorem dX8_precedent_11 : decode cX8_precedent 11 = .ok (.iload_n 1, 1) := by decide +kernel
theorem dX8_precedent_12 : decode cX8_precedent 12 = .ok (.invokevirtual 152, 3) := by decide +kernel
theorem dX8_precedent_15 : decode cX8_precedent 15 = .ok (.ifCond .ge 11, 3) := by decide +kernel
theorem dX8_precedent_18 : decode cX8_precedent 18 = .ok (.aload_n 0, 1) := by decide +kernel
theorem dX8_precedent_19 : decode cX8_precedent 19 = .ok (.iconst 2, 1) := by decide +kernel
theorem dX8_precedent_20 : decode cX8_precedent 20 = .ok (.invokevirtual 103, 3) := by decide +kernel
theorem dX8_precedent_23 : decode cX8_precedent 23 = .ok (.goto 8, 3) := by decide +kernel
theorem dX8_precedent_26 : decode cX8_precedent 26 = .ok (.aload_n 0, 1) := by decide +kernel
theorem dX8_precedent_27 : decode cX8_precedent 27 = .ok (.iload_n 1, 1) := by decide +kernel
theorem dX8_precedent_28 : decode cX8_precedent 28 = .ok (.invokevirtual 152, 3) := by decide +kernel
theorem dX8_precedent_31 : decode cX8_precedent 31 = .ok (.ireturn, 1) := by decide +kernel
theorem dX8_decide_0 : decode cX8_decide 0 = .ok (.aload_n 0, 1) := by decide +kernel
theorem dX8_decide_1 : decode cX8_decide 1 = .ok (.iload_n 1, 1) := by decide +kernel
theorem dX8_decide_2 : decode cX8_decide 2 = .ok (.invokevirtual 169, 3) := by decide +kernel
theorem dX8_decide_5 : decode cX8_decide 5 = .ok (.ifCond .eq 5, 3) := by decide +kernel
theorem dX8_decide_8 : decode cX8_decide 8 = .ok (.iconst 0, 1) := by decide +kernel
theorem dX8_decide_9 : decode cX8_decide 9 = .ok (.ireturn, 1) := by decide +kernel
theorem dX8_decide_10 : decode cX8_decide 10 = .ok (.aload_n 0, 1) := by decide +kernel
theorem dX8_decide_11 : decode cX8_decide 11 = .ok (.getfield 69, 3) := by decide +kernel
theorem dX8_decide_14 : decode cX8_decide 14 = .ok (.iload_n 1, 1) := by decide +kernel
theorem dX8_decide_15 : decode cX8_decide 15 = .ok (.caload, 1) := by decide +kernel
theorem dX8_decide_16 : decode cX8_decide 16 = .ok (.bipush 100, 2) := by decide +kernel
theorem dX8_decide_18 : decode cX8_decide 18 = .ok (.if_icmp .ne 10, 3) := by decide +kernel
theorem dX8_decide_21 : decode cX8_decide 21 = .ok (.aload_n 0, 1) := by decide +kernel
theorem dX8_decide_22 : decode cX8_decide 22 = .ok (.iconst 2, 1) := by decide +kernel
theorem dX8_decide_23 : decode cX8_decide 23 = .ok (.invokevirtual 103, 3) := by decide +kernel
theorem dX8_decide_26 : decode cX8_decide 26 = .ok (.i2c, 1) := by decide +kernel
theorem dX8_decide_27 : decode cX8_decide 27 = .ok (.ireturn, 1) := by decide +kernel
theorem dX8_decide_28 : decode cX8_decide 28 = .ok (.aload_n 0, 1) := by decide +kernel
theorem dX8_decide_29 : decode cX8_decide 29 = .ok (.iload_n 1, 1) := by decide +kernel
theorem dX8_decide_30 : decode cX8_decide 30 = .ok (.iconst 1, 1) := by decide +kernel
theorem dX8_decide_31 : decode cX8_decide 31 = .ok (.invokevirtual 166, 3) := by decide +kernel
theorem dX8_decide_34 : decode cX8_decide 34 = .ok (.aload_n 0, 1) := by decide +kernel
theorem dX8_decide_35 : decode cX8_decide 35 = .ok (.iload_n 1, 1) := by decide +kernel
theorem dX8_decide_36 : decode cX8_decide 36 = .ok (.iconst (-1), 1) := by decide +kernel
theorem dX8_decide_37 : decode cX8_decide 37 = .ok (.invokevirtual 166, 3) := by decide +kernel
theorem dX8_decide_40 : decode cX8_decide 40 = .ok (.iadd, 1) := by decide +kernel
theorem dX8_decide_41 : decode cX8_decide 41 = .ok (.aload_n 0, 1) := by decide +kernel
theorem dX8_decide_42 : decode cX8_decide 42 = .ok (.getfield 38, 3) := by decide +kernel
theorem dX8_decide_45 : decode cX8_decide 45 = .ok (.if_icmp .ge 10, 3) := by decide +kernel
theorem dX8_decide_48 : decode cX8_decide 48 = .ok (.aload_n 0, 1) := by decide +kernel
theorem dX8_decide_49 : decode cX8_decide 49 = .ok (.iconst 3, 1) := by decide +kernel
theorem dX8_decide_50 : decode cX8_decide 50 = .ok (.invokevirtual 103, 3) := by decide +kernel
theorem dX8_decide_53 : decode cX8_decide 53 = .ok (.i2c, 1) := by decide +kernel
theorem dX8_decide_54 : decode cX8_decide 54 = .ok (.ireturn, 1) := by decide +kernel
theorem dX8_decide_55 : decode cX8_decide 55 = .ok (.aload_n 0, 1) := by decide +kernel
theorem dX8_decide_56 : decode cX8_decide 56 = .ok (.getfield 69, 3) := by decide +kernel
theorem dX8_decide_59 : decode cX8_decide 59 = .ok (.iload_n 1, 1) := by decide +kernel
theorem dX8_decide_60 : decode cX8_decide 60 = .ok (.caload, 1) := by decide +kernel
theorem dX8_decide_61 : decode cX8_decide 61 = .ok (.bipush 101, 2) := by decide +kernel
theorem dX8_decide_63 : decode cX8_decide 63 = .ok (.if_icmp .ne 7, 3) := by decide +kernel
theorem dX8_decide_66 : decode cX8_decide 66 = .ok (.iconst 1, 1) := by decide +kernel
theorem dX8_decide_67 : decode cX8_decide 67 = .ok (.goto 4, 3) := by decide +kernel
theorem dX8_decide_70 : decode cX8_decide 70 = .ok (.iconst 0, 1) := by decide +kernel
theorem dX8_decide_71 : decode cX8_decide 71 = .ok (.istore_n 2, 1) := by decide +kernel
theorem dX8_decide_72 : decode cX8_decide 72 = .ok (.aload_n 0, 1) := by decide +kernel
theorem dX8_decide_73 : decode cX8_decide 73 = .ok (.getfield 60, 3) := by decide +kernel
theorem dX8_decide_76 : decode cX8_decide 76 = .ok (.iload_n 1, 1) := by decide +kernel
theorem dX8_decide_77 : decode cX8_decide 77 = .ok (.iaload, 1) := by decide +kernel
theorem dX8_decide_78 : decode cX8_decide 78 = .ok (.istore_n 3, 1) := by decide +kernel
theorem dX8_decide_79 : decode cX8_decide 79 = .ok (.aload_n 0, 1) := by decide +kernel
theorem dX8_decide_80 : decode cX8_decide 80 = .ok (.iload_n 1, 1) := by decide +kernel
theorem dX8_decide_81 : decode cX8_decide 81 = .ok (.aload_n 0, 1) := by decide +kernel
theorem dX8_decide_82 : decode cX8_decide 82 = .ok (.iload_n 1, 1) := by decide +kernel
theorem dX8_decide_83 : decode cX8_decide 83 = .ok (.iconst 1, 1) := by decide +kernel
theorem dX8_decide_84 : decode cX8_decide 84 = .ok (.invokevirtual 166, 3) := by decide +kernel
theorem dX8_decide_87 : decode cX8_decide 87 = .ok (.aload_n 0, 1) := by decide +kernel
theorem dX8_decide_88 : decode cX8_decide 88 = .ok (.iload_n 1, 1) := by decide +kernel
theorem dX8_decide_89 : decode cX8_decide 89 = .ok (.iconst (-1), 1) := by decide +kernel
theorem dX8_decide_90 : decode cX8_decide 90 = .ok (.invokevirtual 166, 3) := by decide +kernel
theorem dX8_decide_93 : decode cX8_decide 93 = .ok (.iconst (-1), 1) := by decide +kernel
theorem dX8_decide_94 : decode cX8_decide 94 = .ok (.invokevirtual 162, 3) := by decide +kernel
theorem dX8_decide_97 : decode cX8_decide 97 = .ok (.iload_n 2, 1) := by decide +kernel
theorem dX8_decide_98 : decode cX8_decide 98 = .ok (.ifCond .ne 10, 3) := by decide +kernel
theorem dX8_decide_101 : decode cX8_decide 101 = .ok (.aload_n 0, 1) := by decide +kernel
theorem dX8_decide_102 : decode cX8_decide 102 = .ok (.getfield 73, 3) := by decide +kernel
theorem dX8_decide_105 : decode cX8_decide 105 = .ok (.iload_n 1, 1) := by decide +kernel
theorem dX8_decide_106 : decode cX8_decide 106 = .ok (.caload, 1) := by decide +kernel
theorem dX8_decide_107 : decode cX8_decide 107 = .ok (.ireturn, 1) := by decide +kernel
theorem dX8_decide_108 : decode cX8_decide 108 = .ok (.aload_n 0, 1) := by decide +kernel
theorem dX8_decide_109 : decode cX8_decide 109 = .ok (.dup, 1) := by decide +kernel
theorem dX8_decide_110 : decode cX8_decide 110 = .ok (.getfield 172, 3) := by decide +kernel
theorem dX8_decide_113 : decode cX8_decide 113 = .ok (.iconst 1, 1) := by decide +kernel
theorem dX8_decide_114 : decode cX8_decide 114 = .ok (.iadd, 1) := by decide +kernel
theorem dX8_decide_115 : decode cX8_decide 115 = .ok (.putfield 172, 3) := by decide +kernel
theorem dX8_decide_118 : decode cX8_decide 118 = .ok (.aload_n 0, 1) := by decide +kernel
theorem dX8_decide_119 : decode cX8_decide 119 = .ok (.getfield 73, 3) := by decide +kernel
theorem dX8_decide_122 : decode cX8_decide 122 = .ok (.iload_n 1, 1) := by decide +kernel
theorem dX8_decide_123 : decode cX8_decide 123 = .ok (.caload, 1) := by decide +kernel
theorem dX8_decide_124 : decode cX8_decide 124 = .ok (.aload_n 0, 1) := by decide +kernel
theorem dX8_decide_125 : decode cX8_decide 125 = .ok (.getfield 76, 3) := by decide +kernel
theorem dX8_decide_128 : decode cX8_decide 128 = .ok (.iload_n 1, 1) := by decide +kernel
theorem dX8_decide_129 : decode cX8_decide 129 = .ok (.caload, 1) := by decide +kernel
theorem dX8_decide_130 : decode cX8_decide 130 = .ok (.if_icmp .eq 7, 3) := by decide +kernel
theorem dX8_decide_133 : decode cX8_decide 133 = .ok (.iconst 1, 1) := by decide +kernel
theorem dX8_decide_134 : decode cX8_decide 134 = .ok (.goto 4, 3) := by decide +kernel
theorem dX8_decide_137 : decode cX8_decide 137 = .ok (.iconst 0, 1) := by decide +kernel
theorem dX8_decide_138 : decode cX8_decide 138 = .ok (.istore 4, 2) := by decide +kernel
theorem dX8_decide_140 : decode cX8_decide 140 = .ok (.aload_n 0, 1) := by decide +kernel
theorem dX8_decide_141 : decode cX8_decide 141 = .ok (.dup, 1) := by decide +kernel
theorem dX8_decide_142 : decode cX8_decide 142 = .ok (.getfield 175, 3) := by decide +kernel
theorem dX8_decide_145 : decode cX8_decide 145 = .ok (.iload 4, 2) := by decide +kernel
theorem dX8_decide_147 : decode cX8_decide 147 = .ok (.ifCond .eq 7, 3) := by decide +kernel
theorem dX8_decide_150 : decode cX8_decide 150 = .ok (.iconst 1, 1) := by decide +kernel
theorem dX8_decide_151 : decode cX8_decide 151 = .ok (.goto 4, 3) := by decide +kernel
theorem dX8_decide_154 : decode cX8_decide 154 = .ok (.iconst 0, 1) := by decide +kernel
theorem dX8_decide_155 : decode cX8_decide 155 = .ok (.iadd, 1) := by decide +kernel
theorem dX8_decide_156 : decode cX8_decide 156 = .ok (.putfield 175, 3) := by decide +kernel
theorem dX8_decide_159 : decode cX8_decide 159 = .ok (.iload_n 3, 1) := by decide +kernel
theorem dX8_decide_160 : decode cX8_decide 160 = .ok (.ifCond .lt 54, 3) := by decide +kernel
theorem dX8_decide_163 : decode cX8_decide 163 = .ok (.aload_n 0, 1) := by decide +kernel
theorem dX8_decide_164 : decode cX8_decide 164 = .ok (.getfield 76, 3) := by decide +kernel
theorem dX8_decide_167 : decode cX8_decide 167 = .ok (.iload_n 1, 1) := by decide +kernel
theorem dX8_decide_168 : decode cX8_decide 168 = .ok (.caload, 1) := by decide +kernel
theorem dX8_decide_169 : decode cX8_decide 169 = .ok (.bipush 103, 2) := by decide +kernel
theorem dX8_decide_171 : decode cX8_decide 171 = .ok (.if_icmp .ne 43, 3) := by decide +kernel
theorem dX8_decide_174 : decode cX8_decide 174 = .ok (.aload_n 0, 1) := by decide +kernel
theorem dX8_decide_175 : decode cX8_decide 175 = .ok (.getfield 31, 3) := by decide +kernel
theorem dX8_decide_178 : decode cX8_decide 178 = .ok (.iload_n 3, 1) := by decide +kernel
theorem dX8_decide_179 : decode cX8_decide 179 = .ok (.iload 4, 2) := by decide +kernel
theorem dX8_decide_181 : decode cX8_decide 181 = .ok (.ifCond .eq 19, 3) := by decide +kernel
theorem dX8_decide_184 : decode cX8_decide 184 = .ok (.bipush 100, 2) := by decide +kernel
theorem dX8_decide_186 : decode cX8_decide 186 = .ok (.aload_n 0, 1) := by decide +kernel
theorem dX8_decide_187 : decode cX8_decide 187 = .ok (.getfield 31, 3) := by decide +kernel
theorem dX8_decide_190 : decode cX8_decide 190 = .ok (.iload_n 3, 1) := by decide +kernel
theorem dX8_decide_191 : decode cX8_decide 191 = .ok (.iaload, 1) := by decide +kernel
theorem dX8_decide_192 : decode cX8_decide 192 = .ok (.iconst 5, 1) := by decide +kernel
theorem dX8_decide_193 : decode cX8_decide 193 = .ok (.iadd, 1) := by decide +kernel
theorem dX8_decide_194 : decode cX8_decide 194 = .ok (.invokestatic 178, 3) := by decide +kernel
theorem dX8_decide_197 : decode cX8_decide 197 = .ok (.goto 16, 3) := by decide +kernel
theorem dX8_decide_200 : decode cX8_decide 200 = .ok (.bipush 50, 2) := by decide +kernel
theorem dX8_decide_202 : decode cX8_decide 202 = .ok (.aload_n 0, 1) := by decide +kernel
theorem dX8_decide_203 : decode cX8_decide 203 = .ok (.getfield 31, 3) := by decide +kernel
theorem dX8_decide_206 : decode cX8_decide 206 = .ok (.iload_n 3, 1) := by decide +kernel
theorem dX8_decide_207 : decode cX8_decide 207 = .ok (.iaload, 1) := by decide +kernel
theorem dX8_decide_208 : decode cX8_decide 208 = .ok (.iconst 1, 1) := by decide +kernel
theorem dX8_decide_209 : decode cX8_decide 209 = .ok (.isub, 1) := by decide +kernel
theorem dX8_decide_210 : decode cX8_decide 210 = .ok (.invokestatic 114, 3) := by decide +kernel
theorem dX8_decide_213 : decode cX8_decide 213 = .ok (.iastore, 1) := by decide +kernel
theorem dX8_decide_214 : decode cX8_decide 214 = .ok (.aload_n 0, 1) := by decide +kernel
theorem dX8_decide_215 : decode cX8_decide 215 = .ok (.getfield 73, 3) := by decide +kernel
theorem dX8_decide_218 : decode cX8_decide 218 = .ok (.iload_n 1, 1) := by decide +kernel
theorem dX8_decide_219 : decode cX8_decide 219 = .ok (.caload, 1) := by decide +kernel
theorem dX8_decide_220 : decode cX8_decide 220 = .ok (.ireturn, 1) := by decide +kernel
theorem dX8_isOpen_0 : decode cX8_isOpen 0 = .ok (.aload_n 0, 1) := by decide +kernel
theorem dX8_isOpen_1 : decode cX8_isOpen 1 = .ok (.aload_n 0, 1) := by decide +kernel
theorem dX8_isOpen_2 : decode cX8_isOpen 2 = .ok (.iload_n 1, 1) := by decide +kernel
theorem dX8_isOpen_3 : decode cX8_isOpen 3 = .ok (.invokevirtual 124, 3) := by decide +kernel
theorem dX8_isOpen_6 : decode cX8_isOpen 6 = .ok (.ifCond .ne 7, 3) := by decide +kernel
theorem dX8_isOpen_9 : decode cX8_isOpen 9 = .ok (.iconst 1, 1) := by decide +kernel
theorem dX8_isOpen_10 : decode cX8_isOpen 10 = .ok (.goto 19, 3) := by decide +kernel
theorem dX8_isOpen_13 : decode cX8_isOpen 13 = .ok (.aload_n 0, 1) := by decide +kernel
theorem dX8_isOpen_14 : decode cX8_isOpen 14 = .ok (.getfield 69, 3) := by decide +kernel
theorem dX8_isOpen_17 : decode cX8_isOpen 17 = .ok (.iload_n 1, 1) := by decide +kernel
theorem dX8_isOpen_18 : decode cX8_isOpen 18 = .ok (.caload, 1) := by decide +kernel
theorem dX8_isOpen_19 : decode cX8_isOpen 19 = .ok (.bipush 100, 2) := by decide +kernel
theorem dX8_isOpen_21 : decode cX8_isOpen 21 = .ok (.if_icmp .ne 7, 3) := by decide +kernel
theorem dX8_isOpen_24 : decode cX8_isOpen 24 = .ok (.iconst 0, 1) := by decide +kernel
theorem dX8_isOpen_25 : decode cX8_isOpen 25 = .ok (.goto 4, 3) := by decide +kernel
theorem dX8_isOpen_28 : decode cX8_isOpen 28 = .ok (.iconst 2, 1) := by decide +kernel
theorem dX8_isOpen_29 : decode cX8_isOpen 29 = .ok (.putfield 84, 3) := by decide +kernel
theorem dX8_isOpen_32 : decode cX8_isOpen 32 = .ok (.aload_n 0, 1) := by decide +kernel
theorem dX8_isOpen_33 : decode cX8_isOpen 33 = .ok (.getfield 84, 3) := by decide +kernel
theorem dX8_isOpen_36 : decode cX8_isOpen 36 = .ok (.ifCond .le 7, 3) := by decide +kernel
theorem dX8_isOpen_39 : decode cX8_isOpen 39 = .ok (.iconst 1, 1) := by decide +kernel
theorem dX8_isOpen_40 : decode cX8_isOpen 40 = .ok (.goto 4, 3) := by decide +kernel
theorem dX8_isOpen_43 : decode cX8_isOpen 43 = .ok (.iconst 0, 1) := by decide +kernel
theorem dX8_isOpen_44 : decode cX8_isOpen 44 = .ok (.ireturn, 1) := by decide +kernel
theorem dX8_outcome_0 : decode cX8_outcome 0 = .ok (.aload_n 0, 1) := by decide +kernel
theorem dX8_outcome_1 : decode cX8_outcome 1 = .ok (.iload_n 1, 1) := by decide +kernel
theorem dX8_outcome_2 : decode cX8_outcome 2 = .ok (.invokevirtual 181, 3) := by decide +kernel
theorem dX8_outcome_5 : decode cX8_outcome 5 = .ok (.ifCond .eq 7, 3) := by decide +kernel
theorem dX8_outcome_8 : decode cX8_outcome 8 = .ok (.iconst 0, 1) := by decide +kernel
theorem dX8_outcome_9 : decode cX8_outcome 9 = .ok (.goto 9, 3) := by decide +kernel
theorem dX8_outcome_12 : decode cX8_outcome 12 = .ok (.aload_n 0, 1) := by decide +kernel
theorem dX8_outcome_13 : decode cX8_outcome 13 = .ok (.getfield 73, 3) := by decide +kernel
theorem dX8_outcome_16 : decode cX8_outcome 16 = .ok (.iload_n 1, 1) := by decide +kernel
theorem dX8_outcome_17 : decode cX8_outcome 17 = .ok (.caload, 1) := by decide +kernel
theorem dX8_outcome_18 : decode cX8_outcome 18 = .ok (.ireturn, 1) := by decide +kernel
theorem dX8_outcomeAnew_0 : decode cX8_outcomeAnew 0 = .ok (.aload_n 0, 1) := by decide +kernel
theorem dX8_outcomeAnew_1 : decode cX8_outcomeAnew 1 = .ok (.iload_n 1, 1) := by decide +kernel
theorem dX8_outcomeAnew_2 : decode cX8_outcomeAnew 2 = .ok (.invokevirtual 184, 3) := by decide +kernel
theorem dX8_outcomeAnew_5 : decode cX8_outcomeAnew 5 = .ok (.ireturn, 1) := by decide +kernel
theorem dX8_isByBot_0 : decode cX8_isByBot 0 = .ok (.aload_n 0, 1) := by decide +kernel
theorem dX8_isByBot_1 : decode cX8_isByBot 1 = .ok (.iload_n 1, 1) := by decide +kernel
theorem dX8_isByBot_2 : decode cX8_isByBot 2 = .ok (.invokevirtual 181, 3) := by decide +kernel
theorem dX8_isByBot_5 : decode cX8_isByBot 5 = .ok (.ifCond .ne 16, 3) := by decide +kernel
theorem dX8_isByBot_8 : decode cX8_isByBot 8 = .ok (.aload_n 0, 1) := by decide +kernel
theorem dX8_isByBot_9 : decode cX8_isByBot 9 = .ok (.getfield 60, 3) := by decide +kernel
theorem dX8_isByBot_12 : decode cX8_isByBot 12 = .ok (.iload_n 1, 1) := by decide +kernel
theorem dX8_isByBot_13 : decode cX8_isByBot 13 = .ok (.iaload, 1) := by decide +kernel
theorem dX8_isByBot_14 : decode cX8_isByBot 14 = .ok (.ifCond .lt 7, 3) := by decide +kernel
theorem dX8_isByBot_17 : decode cX8_isByBot 17 = .ok (.iconst 1, 1) := by decide +kernel
theorem dX8_isByBot_18 : decode cX8_isByBot 18 = .ok (.goto 4, 3) := by decide +kernel
theorem dX8_isByBot_21 : decode cX8_isByBot 21 = .ok (.iconst 0, 1) := by decide +kernel
theorem dX8_isByBot_22 : decode cX8_isByBot 22 = .ok (.ireturn, 1) := by decide +kernel
theorem dX8_appeal_0 : decode cX8_appeal 0 = .ok (.aload_n 0, 1) := by decide +kernel
theorem dX8_appeal_1 : decode cX8_appeal 1 = .ok (.iload_n 1, 1) := by decide +kernel
theorem dX8_appeal_2 : decode cX8_appeal 2 = .ok (.invokevirtual 181, 3) := by decide +kernel
theorem dX8_appeal_5 : decode cX8_appeal 5 = .ok (.ifCond .eq 5, 3) := by decide +kernel
theorem dX8_appeal_8 : decode cX8_appeal 8 = .ok (.iconst 0, 1) := by decide +kernel
theorem dX8_appeal_9 : decode cX8_appeal 9 = .ok (.ireturn, 1) := by decide +kernel
theorem dX8_appeal_10 : decode cX8_appeal 10 = .ok (.aload_n 0, 1) := by decide +kernel
theorem dX8_appeal_11 : decode cX8_appeal 11 = .ok (.getfield 76, 3) := by decide +kernel
theorem dX8_appeal_14 : decode cX8_appeal 14 = .ok (.iload_n 1, 1) := by decide +kernel
theorem dX8_appeal_15 : decode cX8_appeal 15 = .ok (.caload, 1) := by decide +kernel
theorem dX8_appeal_16 : decode cX8_appeal 16 = .ok (.bipush 45, 2) := by decide +kernel
theorem dX8_appeal_18 : decode cX8_appeal 18 = .ok (.if_icmp .eq 9, 3) := by decide +kernel
theorem dX8_appeal_21 : decode cX8_appeal 21 = .ok (.aload_n 0, 1) := by decide +kernel
theorem dX8_appeal_22 : decode cX8_appeal 22 = .ok (.iconst 3, 1) := by decide +kernel
theorem dX8_appeal_23 : decode cX8_appeal 23 = .ok (.invokevirtual 103, 3) := by decide +kernel
theorem dX8_appeal_26 : decode cX8_appeal 26 = .ok (.ireturn, 1) := by decide +kernel
theorem dX8_appeal_27 : decode cX8_appeal 27 = .ok (.aload_n 0, 1) := by decide +kernel
theorem dX8_appeal_28 : decode cX8_appeal 28 = .ok (.getfield 76, 3) := by decide +kernel
theorem dX8_appeal_31 : decode cX8_appeal 31 = .ok (.iload_n 1, 1) := by decide +kernel
theorem dX8_appeal_32 : decode cX8_appeal 32 = .ok (.aload_n 0, 1) := by decide +kernel
theorem dX8_appeal_33 : decode cX8_appeal 33 = .ok (.getfield 73, 3) := by decide +kernel
theorem dX8_appeal_36 : decode cX8_appeal 36 = .ok (.iload_n 1, 1) := by decide +kernel
theorem dX8_appeal_37 : decode cX8_appeal 37 = .ok (.caload, 1) := by decide +kernel
theorem dX8_appeal_38 : decode cX8_appeal 38 = .ok (.castore, 1) := by decide +kernel
theorem dX8_appeal_39 : decode cX8_appeal 39 = .ok (.aload_n 0, 1) := by decide +kernel
theorem dX8_appeal_40 : decode cX8_appeal 40 = .ok (.getfield 69, 3) := by decide +kernel
theorem dX8_appeal_43 : decode cX8_appeal 43 = .ok (.iload_n 1, 1) := by decide +kernel
theorem dX8_appeal_44 : decode cX8_appeal 44 = .ok (.bipush 101, 2) := by decide +kernel
theorem dX8_appeal_46 : decode cX8_appeal 46 = .ok (.castore, 1) := by decide +kernel
theorem dX8_appeal_47 : decode cX8_appeal 47 = .ok (.iconst 0, 1) := by decide +kernel
theorem dX8_appeal_48 : decode cX8_appeal 48 = .ok (.istore_n 2, 1) := by decide +kernel
theorem dX8_appeal_49 : decode cX8_appeal 49 = .ok (.iconst 0, 1) := by decide +kernel
theorem dX8_appeal_50 : decode cX8_appeal 50 = .ok (.istore_n 3, 1) := by decide +kernel
theorem dX8_appeal_51 : decode cX8_appeal 51 = .ok (.iload_n 3, 1) := by decide +kernel
theorem dX8_appeal_52 : decode cX8_appeal 52 = .ok (.aload_n 0, 1) := by decide +kernel
theorem dX8_appeal_53 : decode cX8_appeal 53 = .ok (.getfield 97, 3) := by decide +kernel
theorem dX8_appeal_56 : decode cX8_appeal 56 = .ok (.if_icmp .ge 28, 3) := by decide +kernel
theorem dX8_appeal_59 : decode cX8_appeal 59 = .ok (.iload_n 2, 1) := by decide +kernel
theorem dX8_appeal_60 : decode cX8_appeal 60 = .ok (.aload_n 0, 1) := by decide +kernel
theorem dX8_appeal_61 : decode cX8_appeal 61 = .ok (.getfield 69, 3) := by decide +kernel
theorem dX8_appeal_64 : decode cX8_appeal 64 = .ok (.iload_n 3, 1) := by decide +kernel
theorem dX8_appeal_65 : decode cX8_appeal 65 = .ok (.caload, 1) := by decide +kernel
theorem dX8_appeal_66 : decode cX8_appeal 66 = .ok (.bipush 101, 2) := by decide +kernel
theorem dX8_appeal_68 : decode cX8_appeal 68 = .ok (.if_icmp .ne 7, 3) := by decide +kernel
theorem dX8_appeal_71 : decode cX8_appeal 71 = .ok (.iconst 1, 1) := by decide +kernel
theorem dX8_appeal_72 : decode cX8_appeal 72 = .ok (.goto 4, 3) := by decide +kernel
theorem dX8_appeal_75 : decode cX8_appeal 75 = .ok (.iconst 0, 1) := by decide +kernel
theorem dX8_appeal_76 : decode cX8_appeal 76 = .ok (.iadd, 1) := by decide +kernel
theorem dX8_appeal_77 : decode cX8_appeal 77 = .ok (.istore_n 2, 1) := by decide +kernel
theorem dX8_appeal_78 : decode cX8_appeal 78 = .ok (.iinc 3 1, 3) := by decide +kernel
theorem dX8_appeal_81 : decode cX8_appeal 81 = .ok (.goto (-30), 3) := by decide +kernel
theorem dX8_appeal_84 : decode cX8_appeal 84 = .ok (.iload_n 2, 1) := by decide +kernel
theorem dX8_appeal_85 : decode cX8_appeal 85 = .ok (.ireturn, 1) := by decide +kernel
theorem dX8_isReversed_0 : decode cX8_isReversed 0 = .ok (.aload_n 0, 1) := by decide +kernel
theorem dX8_isReversed_1 : decode cX8_isReversed 1 = .ok (.getfield 69, 3) := by decide +kernel
theorem dX8_isReversed_4 : decode cX8_isReversed 4 = .ok (.iload_n 1, 1) := by decide +kernel
theorem dX8_isReversed_5 : decode cX8_isReversed 5 = .ok (.caload, 1) := by decide +kernel
theorem dX8_isReversed_6 : decode cX8_isReversed 6 = .ok (.bipush 100, 2) := by decide +kernel
theorem dX8_isReversed_8 : decode cX8_isReversed 8 = .ok (.if_icmp .ne 33, 3) := by decide +kernel
theorem dX8_isReversed_11 : decode cX8_isReversed 11 = .ok (.aload_n 0, 1) := by decide +kernel
theorem dX8_isReversed_12 : decode cX8_isReversed 12 = .ok (.getfield 76, 3) := by decide +kernel
theorem dX8_isReversed_15 : decode cX8_isReversed 15 = .ok (.iload_n 1, 1) := by decide +kernel
theorem dX8_isReversed_16 : decode cX8_isReversed 16 = .ok (.caload, 1) := by decide +kernel
theorem dX8_isReversed_17 : decode cX8_isReversed 17 = .ok (.bipush 45, 2) := by decide +kernel
theorem dX8_isReversed_19 : decode cX8_isReversed 19 = .ok (.if_icmp .eq 22, 3) := by decide +kernel
theorem dX8_isReversed_22 : decode cX8_isReversed 22 = .ok (.aload_n 0, 1) := by decide +kernel
theorem dX8_isReversed_23 : decode cX8_isReversed 23 = .ok (.getfield 76, 3) := by decide +kernel
theorem dX8_isReversed_26 : decode cX8_isReversed 26 = .ok (.iload_n 1, 1) := by decide +kernel
theorem dX8_isReversed_27 : decode cX8_isReversed 27 = .ok (.caload, 1) := by decide +kernel
theorem dX8_isReversed_28 : decode cX8_isReversed 28 = .ok (.aload_n 0, 1) := by decide +kernel
theorem dX8_isReversed_29 : decode cX8_isReversed 29 = .ok (.getfield 73, 3) := by decide +kernel
theorem dX8_isReversed_32 : decode cX8_isReversed 32 = .ok (.iload_n 1, 1) := by decide +kernel
theorem dX8_isReversed_33 : decode cX8_isReversed 33 = .ok (.caload, 1) := by decide +kernel
theorem dX8_isReversed_34 : decode cX8_isReversed 34 = .ok (.if_icmp .eq 7, 3) := by decide +kernel
theorem dX8_isReversed_37 : decode cX8_isReversed 37 = .ok (.iconst 1, 1) := by decide +kernel
theorem dX8_isReversed_38 : decode cX8_isReversed 38 = .ok (.goto 4, 3) := by decide +kernel
theorem dX8_isReversed_41 : decode cX8_isReversed 41 = .ok (.iconst 0, 1) := by decide +kernel
theorem dX8_isReversed_42 : decode cX8_isReversed 42 = .ok (.ireturn, 1) := by decide +kernel
theorem dX8_wasReversed_0 : decode cX8_wasReversed 0 = .ok (.aload_n 0, 1) := by decide +kernel
theorem dX8_wasReversed_1 : decode cX8_wasReversed 1 = .ok (.iload_n 1, 1) := by decide +kernel
theorem dX8_wasReversed_2 : decode cX8_wasReversed 2 = .ok (.invokevirtual 169, 3) := by decide +kernel
theorem dX8_wasReversed_5 : decode cX8_wasReversed 5 = .ok (.ifCond .ne 15, 3) := by decide +kernel
theorem dX8_wasReversed_8 : decode cX8_wasReversed 8 = .ok (.aload_n 0, 1) := by decide +kernel
theorem dX8_wasReversed_9 : decode cX8_wasReversed 9 = .ok (.iload_n 1, 1) := by decide +kernel
theorem dX8_wasReversed_10 : decode cX8_wasReversed 10 = .ok (.invokevirtual 188, 3) := by decide +kernel
theorem dX8_wasReversed_13 : decode cX8_wasReversed 13 = .ok (.ifCond .eq 7, 3) := by decide +kernel
theorem dX8_wasReversed_16 : decode cX8_wasReversed 16 = .ok (.iconst 1, 1) := by decide +kernel
theorem dX8_wasReversed_17 : decode cX8_wasReversed 17 = .ok (.goto 4, 3) := by decide +kernel
theorem dX8_wasReversed_20 : decode cX8_wasReversed 20 = .ok (.iconst 0, 1) := by decide +kernel
theorem dX8_wasReversed_21 : decode cX8_wasReversed 21 = .ok (.ireturn, 1) := by decide +kernel
theorem dX8_today_0 : decode cX8_today 0 = .ok (.aload_n 0, 1) := by decide +kernel
theorem dX8_today_1 : decode cX8_today 1 = .ok (.iconst 0, 1) := by decide +kernel
theorem dX8_today_2 : decode cX8_today 2 = .ok (.putfield 84, 3) := by decide +kernel
theorem dX8_today_5 : decode cX8_today 5 = .ok (.aload_n 0, 1) := by decide +kernel
theorem dX8_today_6 : decode cX8_today 6 = .ok (.getfield 100, 3) := by decide +kernel
theorem dX8_today_9 : decode cX8_today 9 = .ok (.ireturn, 1) := by decide +kernel
theorem dX8_pass_0 : decode cX8_pass 0 = .ok (.aload_n 0, 1) := by decide +kernel
theorem dX8_pass_1 : decode cX8_pass 1 = .ok (.iconst 0, 1) := by decide +kernel
theorem dX8_pass_2 : decode cX8_pass 2 = .ok (.putfield 84, 3) := by decide +kernel
theorem dX8_pass_5 : decode cX8_pass 5 = .ok (.iload_n 1, 1) := by decide +kernel
theorem dX8_pass_6 : decode cX8_pass 6 = .ok (.iconst 1, 1) := by decide +kernel
theorem dX8_pass_7 : decode cX8_pass 7 = .ok (.bipush 100, 2) := by decide +kernel
theorem dX8_pass_9 : decode cX8_pass 9 = .ok (.invokestatic 90, 3) := by decide +kernel
theorem dX8_pass_12 : decode cX8_pass 12 = .ok (.ifCond .ne 9, 3) := by decide +kernel
theorem dX8_pass_15 : decode cX8_pass 15 = .ok (.aload_n 0, 1) := by decide +kernel
theorem dX8_pass_16 : decode cX8_pass 16 = .ok (.iconst 1, 1) := by decide +kernel
theorem dX8_pass_17 : decode cX8_pass 17 = .ok (.invokevirtual 103, 3) := by decide +kernel
theorem dX8_pass_20 : decode cX8_pass 20 = .ok (.ireturn, 1) := by decide +kernel
theorem dX8_pass_21 : decode cX8_pass 21 = .ok (.aload_n 0, 1) := by decide +kernel
theorem dX8_pass_22 : decode cX8_pass 22 = .ok (.getfield 100, 3) := by decide +kernel
theorem dX8_pass_25 : decode cX8_pass 25 = .ok (.iload_n 1, 1) := by decide +kernel
theorem dX8_pass_26 : decode cX8_pass 26 = .ok (.iadd, 1) := by decide +kernel
theorem dX8_pass_27 : decode cX8_pass 27 = .ok (.sipush 1000, 3) := by decide +kernel
theorem dX8_pass_30 : decode cX8_pass 30 = .ok (.if_icmp .le 9, 3) := by decide +kernel
theorem dX8_pass_33 : decode cX8_pass 33 = .ok (.aload_n 0, 1) := by decide +kernel
theorem dX8_pass_34 : decode cX8_pass 34 = .ok (.iconst 2, 1) := by decide +kernel
theorem dX8_pass_35 : decode cX8_pass 35 = .ok (.invokevirtual 103, 3) := by decide +kernel
theorem dX8_pass_38 : decode cX8_pass 38 = .ok (.ireturn, 1) := by decide +kernel
theorem dX8_pass_39 : decode cX8_pass 39 = .ok (.iconst 0, 1) := by decide +kernel
theorem dX8_pass_40 : decode cX8_pass 40 = .ok (.istore_n 2, 1) := by decide +kernel
theorem dX8_pass_41 : decode cX8_pass 41 = .ok (.iconst 0, 1) := by decide +kernel
theorem dX8_pass_42 : decode cX8_pass 42 = .ok (.istore_n 3, 1) := by decide +kernel
theorem dX8_pass_43 : decode cX8_pass 43 = .ok (.iload_n 3, 1) := by decide +kernel
theorem dX8_pass_44 : decode cX8_pass 44 = .ok (.iload_n 1, 1) := by decide +kernel
theorem dX8_pass_45 : decode cX8_pass 45 = .ok (.if_icmp .ge 101, 3) := by decide +kernel
theorem dX8_pass_48 : decode cX8_pass 48 = .ok (.iconst 0, 1) := by decide +kernel
theorem dX8_pass_49 : decode cX8_pass 49 = .ok (.istore 4, 2) := by decide +kernel
theorem dX8_pass_51 : decode cX8_pass 51 = .ok (.iload 4, 2) := by decide +kernel
theorem dX8_pass_53 : decode cX8_pass 53 = .ok (.aload_n 0, 1) := by decide +kernel
theorem dX8_pass_54 : decode cX8_pass 54 = .ok (.getfield 97, 3) := by decide +kernel
theorem dX8_pass_57 : decode cX8_pass 57 = .ok (.if_icmp .ge 73, 3) := by decide +kernel
theorem dX8_pass_60 : decode cX8_pass 60 = .ok (.aload_n 0, 1) := by decide +kernel
theorem dX8_pass_61 : decode cX8_pass 61 = .ok (.dup, 1) := by decide +kernel
theorem dX8_pass_62 : decode cX8_pass 62 = .ok (.getfield 191, 3) := by decide +kernel
theorem dX8_pass_65 : decode cX8_pass 65 = .ok (.aload_n 0, 1) := by decide +kernel
theorem dX8_pass_66 : decode cX8_pass 66 = .ok (.iload 4, 2) := by decide +kernel
theorem dX8_pass_68 : decode cX8_pass 68 = .ok (.aload_n 0, 1) := by decide +kernel
theorem dX8_pass_69 : decode cX8_pass 69 = .ok (.getfield 100, 3) := by decide +kernel
theorem dX8_pass_72 : decode cX8_pass 72 = .ok (.invokevirtual 137, 3) := by decide +kernel
theorem dX8_pass_75 : decode cX8_pass 75 = .ok (.ifCond .eq 7, 3) := by decide +kernel
theorem dX8_pass_78 : decode cX8_pass 78 = .ok (.lconst 1, 1) := by decide +kernel
theorem dX8_pass_79 : decode cX8_pass 79 = .ok (.goto 4, 3) := by decide +kernel
theorem dX8_pass_82 : decode cX8_pass 82 = .ok (.lconst 0, 1) := by decide +kernel
theorem dX8_pass_83 : decode cX8_pass 83 = .ok (.ladd, 1) := by decide +kernel
theorem dX8_pass_84 : decode cX8_pass 84 = .ok (.putfield 191, 3) := by decide +kernel
theorem dX8_pass_87 : decode cX8_pass 87 = .ok (.iload_n 2, 1) := by decide +kernel
theorem dX8_pass_88 : decode cX8_pass 88 = .ok (.aload_n 0, 1) := by decide +kernel
theorem dX8_pass_89 : decode cX8_pass 89 = .ok (.iload 4, 2) := by decide +kernel
theorem dX8_pass_91 : decode cX8_pass 91 = .ok (.aload_n 0, 1) := by decide +kernel
theorem dX8_pass_92 : decode cX8_pass 92 = .ok (.getfield 100, 3) := by decide +kernel
theorem dX8_pass_95 : decode cX8_pass 95 = .ok (.invokevirtual 137, 3) := by decide +kernel
theorem dX8_pass_98 : decode cX8_pass 98 = .ok (.ifCond .eq 23, 3) := by decide +kernel
theorem dX8_pass_101 : decode cX8_pass 101 = .ok (.aload_n 0, 1) := by decide +kernel
theorem dX8_pass_102 : decode cX8_pass 102 = .ok (.getfield 66, 3) := by decide +kernel
theorem dX8_pass_105 : decode cX8_pass 105 = .ok (.iload 4, 2) := by decide +kernel
theorem dX8_pass_107 : decode cX8_pass 107 = .ok (.iaload, 1) := by decide +kernel
theorem dX8_pass_108 : decode cX8_pass 108 = .ok (.aload_n 0, 1) := by decide +kernel
theorem dX8_pass_109 : decode cX8_pass 109 = .ok (.getfield 100, 3) := by decide +kernel
theorem dX8_pass_112 : decode cX8_pass 112 = .ok (.iconst 1, 1) := by decide +kernel
theorem dX8_pass_113 : decode cX8_pass 113 = .ok (.iadd, 1) := by decide +kernel
theorem dX8_pass_114 : decode cX8_pass 114 = .ok (.if_icmp .ne 7, 3) := by decide +kernel
theorem dX8_pass_117 : decode cX8_pass 117 = .ok (.iconst 1, 1) := by decide +kernel
theorem dX8_pass_118 : decode cX8_pass 118 = .ok (.goto 4, 3) := by decide +kernel
theorem dX8_pass_121 : decode cX8_pass 121 = .ok (.iconst 0, 1) := by decide +kernel
theorem dX8_pass_122 : decode cX8_pass 122 = .ok (.iadd, 1) := by decide +kernel
theorem dX8_pass_123 : decode cX8_pass 123 = .ok (.istore_n 2, 1) := by decide +kernel
theorem dX8_pass_124 : decode cX8_pass 124 = .ok (.iinc 4 1, 3) := by decide +kernel
theorem dX8_pass_127 : decode cX8_pass 127 = .ok (.goto (-76), 3) := by decide +kernel
theorem dX8_pass_130 : decode cX8_pass 130 = .ok (.aload_n 0, 1) := by decide +kernel
theorem dX8_pass_131 : decode cX8_pass 131 = .ok (.dup, 1) := by decide +kernel
theorem dX8_pass_132 : decode cX8_pass 132 = .ok (.getfield 100, 3) := by decide +kernel
theorem dX8_pass_135 : decode cX8_pass 135 = .ok (.iconst 1, 1) := by decide +kernel
theorem dX8_pass_136 : decode cX8_pass 136 = .ok (.iadd, 1) := by decide +kernel
theorem dX8_pass_137 : decode cX8_pass 137 = .ok (.putfield 100, 3) := by decide +kernel
theorem dX8_pass_140 : decode cX8_pass 140 = .ok (.iinc 3 1, 3) := by decide +kernel
theorem dX8_pass_143 : decode cX8_pass 143 = .ok (.goto (-100), 3) := by decide +kernel
theorem dX8_pass_146 : decode cX8_pass 146 = .ok (.iload_n 2, 1) := by decide +kernel
theorem dX8_pass_147 : decode cX8_pass 147 = .ok (.ireturn, 1) := by decide +kernel
theorem dX8_decisions_0 : decode cX8_decisions 0 = .ok (.aload_n 0, 1) := by decide +kernel
theorem dX8_decisions_1 : decode cX8_decisions 1 = .ok (.iconst 0, 1) := by decide +kernel
theorem dX8_decisions_2 : decode cX8_decisions 2 = .ok (.putfield 84, 3) := by decide +kernel
theorem dX8_decisions_5 : decode cX8_decisions 5 = .ok (.aload_n 0, 1) := by decide +kernel
theorem dX8_decisions_6 : decode cX8_decisions 6 = .ok (.getfield 159, 3) := by decide +kernel
theorem dX8_decisions_9 : decode cX8_decisions 9 = .ok (.ireturn, 1) := by decide +kernel
theorem dX8_likeness_0 : decode cX8_likeness 0 = .ok (.aload_n 0, 1) := by decide +kernel
theorem dX8_likeness_1 : decode cX8_likeness 1 = .ok (.aload_n 0, 1) := by decide +kernel
theorem dX8_likeness_2 : decode cX8_likeness 2 = .ok (.iload_n 1, 1) := by decide +kernel
theorem dX8_likeness_3 : decode cX8_likeness 3 = .ok (.invokevirtual 124, 3) := by decide +kernel
theorem dX8_likeness_6 : decode cX8_likeness 6 = .ok (.ifCond .eq 15, 3) := by decide +kernel
theorem dX8_likeness_9 : decode cX8_likeness 9 = .ok (.aload_n 0, 1) := by decide +kernel
theorem dX8_likeness_10 : decode cX8_likeness 10 = .ok (.iload_n 2, 1) := by decide +kernel
theorem dX8_likeness_11 : decode cX8_likeness 11 = .ok (.invokevirtual 124, 3) := by decide +kernel
theorem dX8_likeness_14 : decode cX8_likeness 14 = .ok (.ifCond .eq 7, 3) := by decide +kernel
theorem dX8_likeness_17 : decode cX8_likeness 17 = .ok (.iconst 0, 1) := by decide +kernel
theorem dX8_likeness_18 : decode cX8_likeness 18 = .ok (.goto 4, 3) := by decide +kernel
theorem dX8_likeness_21 : decode cX8_likeness 21 = .ok (.iconst 1, 1) := by decide +kernel
theorem dX8_likeness_22 : decode cX8_likeness 22 = .ok (.putfield 84, 3) := by decide +kernel
theorem dX8_likeness_25 : decode cX8_likeness 25 = .ok (.aload_n 0, 1) := by decide +kernel
theorem dX8_likeness_26 : decode cX8_likeness 26 = .ok (.getfield 84, 3) := by decide +kernel
theorem dX8_likeness_29 : decode cX8_likeness 29 = .ok (.ifCond .le 7, 3) := by decide +kernel
theorem dX8_likeness_32 : decode cX8_likeness 32 = .ok (.iconst 0, 1) := by decide +kernel
theorem dX8_likeness_33 : decode cX8_likeness 33 = .ok (.goto 9, 3) := by decide +kernel
theorem dX8_likeness_36 : decode cX8_likeness 36 = .ok (.aload_n 0, 1) := by decide +kernel
theorem dX8_likeness_37 : decode cX8_likeness 37 = .ok (.iload_n 1, 1) := by decide +kernel
theorem dX8_likeness_38 : decode cX8_likeness 38 = .ok (.iload_n 2, 1) := by decide +kernel
theorem dX8_likeness_39 : decode cX8_likeness 39 = .ok (.invokevirtual 149, 3) := by decide +kernel
theorem dX8_likeness_42 : decode cX8_likeness 42 = .ok (.ireturn, 1) := by decide +kernel
theorem dX8_isOf_0 : decode cX8_isOf 0 = .ok (.iload_n 2, 1) := by decide +kernel
theorem dX8_isOf_1 : decode cX8_isOf 1 = .ok (.lookupswitch 86 #[(98, 60), (103, 52), (111, 35)], 35) := by decide +kernel
theorem dX8_isOf_36 : decode cX8_isOf 36 = .ok (.aload_n 0, 1) := by decide +kernel
theorem dX8_isOf_37 : decode cX8_isOf 37 = .ok (.getfield 69, 3) := by decide +kernel
theorem dX8_isOf_40 : decode cX8_isOf 40 = .ok (.iload_n 1, 1) := by decide +kernel
theorem dX8_isOf_41 : decode cX8_isOf 41 = .ok (.caload, 1) := by decide +kernel
theorem dX8_isOf_42 : decode cX8_isOf 42 = .ok (.bipush 111, 2) := by decide +kernel
theorem dX8_isOf_44 : decode cX8_isOf 44 = .ok (.if_icmp .ne 7, 3) := by decide +kernel
theorem dX8_isOf_47 : decode cX8_isOf 47 = .ok (.iconst 1, 1) := by decide +kernel
theorem dX8_isOf_48 : decode cX8_isOf 48 = .ok (.goto 4, 3) := by decide +kernel
theorem dX8_isOf_51 : decode cX8_isOf 51 = .ok (.iconst 0, 1) := by decide +kernel
theorem dX8_isOf_52 : decode cX8_isOf 52 = .ok (.ireturn, 1) := by decide +kernel
theorem dX8_isOf_53 : decode cX8_isOf 53 = .ok (.aload_n 0, 1) := by decide +kernel
theorem dX8_isOf_54 : decode cX8_isOf 54 = .ok (.iload_n 1, 1) := by decide +kernel
theorem dX8_isOf_55 : decode cX8_isOf 55 = .ok (.bipush 103, 2) := by decide +kernel
theorem dX8_isOf_57 : decode cX8_isOf 57 = .ok (.invokevirtual 133, 3) := by decide +kernel
theorem dX8_isOf_60 : decode cX8_isOf 60 = .ok (.ireturn, 1) := by decide +kernel
theorem dX8_isOf_61 : decode cX8_isOf 61 = .ok (.aload_n 0, 1) := by decide +kernel
theorem dX8_isOf_62 : decode cX8_isOf 62 = .ok (.getfield 69, 3) := by decide +kernel
theorem dX8_isOf_65 : decode cX8_isOf 65 = .ok (.iload_n 1, 1) := by decide +kernel
theorem dX8_isOf_66 : decode cX8_isOf 66 = .ok (.caload, 1) := by decide +kernel
theorem dX8_isOf_67 : decode cX8_isOf 67 = .ok (.bipush 100, 2) := by decide +kernel
theorem dX8_isOf_69 : decode cX8_isOf 69 = .ok (.if_icmp .ne 16, 3) := by decide +kernel
theorem dX8_isOf_72 : decode cX8_isOf 72 = .ok (.aload_n 0, 1) := by decide +kernel
theorem dX8_isOf_73 : decode cX8_isOf 73 = .ok (.getfield 60, 3) := by decide +kernel
theorem dX8_isOf_76 : decode cX8_isOf 76 = .ok (.iload_n 1, 1) := by decide +kernel
theorem dX8_isOf_77 : decode cX8_isOf 77 = .ok (.iaload, 1) := by decide +kernel
theorem dX8_isOf_78 : decode cX8_isOf 78 = .ok (.ifCond .lt 7, 3) := by decide +kernel
theorem dX8_isOf_81 : decode cX8_isOf 81 = .ok (.iconst 1, 1) := by decide +kernel
theorem dX8_isOf_82 : decode cX8_isOf 82 = .ok (.goto 4, 3) := by decide +kernel
theorem dX8_isOf_85 : decode cX8_isOf 85 = .ok (.iconst 0, 1) := by decide +kernel
theorem dX8_isOf_86 : decode cX8_isOf 86 = .ok (.ireturn, 1) := by decide +kernel
theorem dX8_isOf_87 : decode cX8_isOf 87 = .ok (.aload_n 0, 1) := by decide +kernel
theorem dX8_isOf_88 : decode cX8_isOf 88 = .ok (.iload_n 1, 1) := by decide +kernel
theorem dX8_isOf_89 : decode cX8_isOf 89 = .ok (.invokevirtual 188, 3) := by decide +kernel
theorem dX8_isOf_92 : decode cX8_isOf 92 = .ok (.ireturn, 1) := by decide +kernel
theorem dX8_count_0 : decode cX8_count 0 = .ok (.aload_n 0, 1) := by decide +kernel
theorem dX8_count_1 : decode cX8_count 1 = .ok (.iconst 0, 1) := by decide +kernel
theorem dX8_count_2 : decode cX8_count 2 = .ok (.putfield 84, 3) := by decide +kernel
theorem dX8_count_5 : decode cX8_count 5 = .ok (.iload_n 1, 1) := by decide +kernel
theorem dX8_count_6 : decode cX8_count 6 = .ok (.bipush 111, 2) := by decide +kernel
theorem dX8_count_8 : decode cX8_count 8 = .ok (.if_icmp .eq 27, 3) := by decide +kernel
theorem dX8_count_11 : decode cX8_count 11 = .ok (.iload_n 1, 1) := by decide +kernel
theorem dX8_count_12 : decode cX8_count 12 = .ok (.bipush 103, 2) := by decide +kernel
theorem dX8_count_14 : decode cX8_count 14 = .ok (.if_icmp .eq 21, 3) := by decide +kernel
theorem dX8_count_17 : decode cX8_count 17 = .ok (.iload_n 1, 1) := by decide +kernel
theorem dX8_count_18 : decode cX8_count 18 = .ok (.bipush 98, 2) := by decide +kernel
theorem dX8_count_20 : decode cX8_count 20 = .ok (.if_icmp .eq 15, 3) := by decide +kernel
theorem dX8_count_23 : decode cX8_count 23 = .ok (.iload_n 1, 1) := by decide +kernel
theorem dX8_count_24 : decode cX8_count 24 = .ok (.bipush 114, 2) := by decide +kernel
theorem dX8_count_26 : decode cX8_count 26 = .ok (.if_icmp .eq 9, 3) := by decide +kernel
theorem dX8_count_29 : decode cX8_count 29 = .ok (.aload_n 0, 1) := by decide +kernel
theorem dX8_count_30 : decode cX8_count 30 = .ok (.iconst 1, 1) := by decide +kernel
theorem dX8_count_31 : decode cX8_count 31 = .ok (.invokevirtual 103, 3) := by decide +kernel
theorem dX8_count_34 : decode cX8_count 34 = .ok (.ireturn, 1) := by decide +kernel
theorem dX8_count_35 : decode cX8_count 35 = .ok (.iconst 0, 1) := by decide +kernel
theorem dX8_count_36 : decode cX8_count 36 = .ok (.istore_n 2, 1) := by decide +kernel
theorem dX8_count_37 : decode cX8_count 37 = .ok (.iconst 0, 1) := by decide +kernel
theorem dX8_count_38 : decode cX8_count 38 = .ok (.istore_n 3, 1) := by decide +kernel
theorem dX8_count_39 : decode cX8_count 39 = .ok (.iload_n 3, 1) := by decide +kernel
theorem dX8_count_40 : decode cX8_count 40 = .ok (.aload_n 0, 1) := by decide +kernel
theorem dX8_count_41 : decode cX8_count 41 = .ok (.getfield 97, 3) := by decide +kernel
theorem dX8_count_44 : decode cX8_count 44 = .ok (.if_icmp .ge 26, 3) := by decide +kernel
theorem dX8_count_47 : decode cX8_count 47 = .ok (.iload_n 2, 1) := by decide +kernel
theorem dX8_count_48 : decode cX8_count 48 = .ok (.aload_n 0, 1) := by decide +kernel
theorem dX8_count_49 : decode cX8_count 49 = .ok (.iload_n 3, 1) := by decide +kernel
theorem dX8_count_50 : decode cX8_count 50 = .ok (.iload_n 1, 1) := by decide +kernel
theorem dX8_count_51 : decode cX8_count 51 = .ok (.invokevirtual 195, 3) := by decide +kernel
theorem dX8_count_54 : decode cX8_count 54 = .ok (.ifCond .eq 7, 3) := by decide +kernel
theorem dX8_count_57 : decode cX8_count 57 = .ok (.iconst 1, 1) := by decide +kernel
theorem dX8_count_58 : decode cX8_count 58 = .ok (.goto 4, 3) := by decide +kernel
theorem dX8_count_61 : decode cX8_count 61 = .ok (.iconst 0, 1) := by decide +kernel
theorem dX8_count_62 : decode cX8_count 62 = .ok (.iadd, 1) := by decide +kernel
theorem dX8_count_63 : decode cX8_count 63 = .ok (.istore_n 2, 1) := by decide +kernel
theorem dX8_count_64 : decode cX8_count 64 = .ok (.iinc 3 1, 3) := by decide +kernel
theorem dX8_count_67 : decode cX8_count 67 = .ok (.goto (-28), 3) := by decide +kernel
theorem dX8_count_70 : decode cX8_count 70 = .ok (.iload_n 2, 1) := by decide +kernel
theorem dX8_count_71 : decode cX8_count 71 = .ok (.ireturn, 1) := by decide +kernel
theorem dX8_meanEvidence_0 : decode cX8_meanEvidence 0 = .ok (.aload_n 0, 1) := by decide +kernel
theorem dX8_meanEvidence_1 : decode cX8_meanEvidence 1 = .ok (.iconst 0, 1) := by decide +kernel
theorem dX8_meanEvidence_2 : decode cX8_meanEvidence 2 = .ok (.putfield 84, 3) := by decide +kernel
theorem dX8_meanEvidence_5 : decode cX8_meanEvidence 5 = .ok (.iconst 0, 1) := by decide +kernel
theorem dX8_meanEvidence_6 : decode cX8_meanEvidence 6 = .ok (.istore_n 1, 1) := by decide +kernel
theorem dX8_meanEvidence_7 : decode cX8_meanEvidence 7 = .ok (.iconst 0, 1) := by decide +kernel
theorem dX8_meanEvidence_8 : decode cX8_meanEvidence 8 = .ok (.istore_n 2, 1) := by decide +kernel
theorem dX8_meanEvidence_9 : decode cX8_meanEvidence 9 = .ok (.iconst 0, 1) := by decide +kernel
theorem dX8_meanEvidence_10 : decode cX8_meanEvidence 10 = .ok (.istore_n 3, 1) := by decide +kernel
theorem dX8_meanEvidence_11 : decode cX8_meanEvidence 11 = .ok (.iload_n 3, 1) := by decide +kernel
theorem dX8_meanEvidence_12 : decode cX8_meanEvidence 12 = .ok (.aload_n 0, 1) := by decide +kernel
theorem dX8_meanEvidence_13 : decode cX8_meanEvidence 13 = .ok (.getfield 97, 3) := by decide +kernel
theorem dX8_meanEvidence_16 : decode cX8_meanEvidence 16 = .ok (.if_icmp .ge 34, 3) := by decide +kernel
theorem dX8_meanEvidence_19 : decode cX8_meanEvidence 19 = .ok (.aload_n 0, 1) := by decide +kernel
theorem dX8_meanEvidence_20 : decode cX8_meanEvidence 20 = .ok (.iload_n 3, 1) := by decide +kernel
theorem dX8_meanEvidence_21 : decode cX8_meanEvidence 21 = .ok (.bipush 103, 2) := by decide +kernel
theorem dX8_meanEvidence_23 : decode cX8_meanEvidence 23 = .ok (.invokevirtual 133, 3) := by decide +kernel
theorem dX8_meanEvidence_26 : decode cX8_meanEvidence 26 = .ok (.ifCond .ne 6, 3) := by decide +kernel
theorem dX8_meanEvidence_29 : decode cX8_meanEvidence 29 = .ok (.goto 15, 3) := by decide +kernel
theorem dX8_meanEvidence_32 : decode cX8_meanEvidence 32 = .ok (.iinc 1 1, 3) := by decide +kernel
theorem dX8_meanEvidence_35 : decode cX8_meanEvidence 35 = .ok (.iload_n 2, 1) := by decide +kernel
theorem dX8_meanEvidence_36 : decode cX8_meanEvidence 36 = .ok (.aload_n 0, 1) := by decide +kernel
theorem dX8_meanEvidence_37 : decode cX8_meanEvidence 37 = .ok (.getfield 51, 3) := by decide +kernel
theorem dX8_meanEvidence_40 : decode cX8_meanEvidence 40 = .ok (.iload_n 3, 1) := by decide +kernel
theorem dX8_meanEvidence_41 : decode cX8_meanEvidence 41 = .ok (.iaload, 1) := by decide +kernel
theorem dX8_meanEvidence_42 : decode cX8_meanEvidence 42 = .ok (.iadd, 1) := by decide +kernel
theorem dX8_meanEvidence_43 : decode cX8_meanEvidence 43 = .ok (.istore_n 2, 1) := by decide +kernel
theorem dX8_meanEvidence_44 : decode cX8_meanEvidence 44 = .ok (.iinc 3 1, 3) := by decide +kernel
theorem dX8_meanEvidence_47 : decode cX8_meanEvidence 47 = .ok (.goto (-36), 3) := by decide +kernel
theorem dX8_meanEvidence_50 : decode cX8_meanEvidence 50 = .ok (.iload_n 1, 1) := by decide +kernel
theorem dX8_meanEvidence_51 : decode cX8_meanEvidence 51 = .ok (.ifCond .ne 12, 3) := by decide +kernel
theorem dX8_meanEvidence_54 : decode cX8_meanEvidence 54 = .ok (.aload_n 0, 1) := by decide +kernel
theorem dX8_meanEvidence_55 : decode cX8_meanEvidence 55 = .ok (.iconst 1, 1) := by decide +kernel
theorem dX8_meanEvidence_56 : decode cX8_meanEvidence 56 = .ok (.invokevirtual 103, 3) := by decide +kernel
theorem dX8_meanEvidence_59 : decode cX8_meanEvidence 59 = .ok (.i2d, 1) := by decide +kernel
theorem dX8_meanEvidence_60 : decode cX8_meanEvidence 60 = .ok (.goto 8, 3) := by decide +kernel
theorem dX8_meanEvidence_63 : decode cX8_meanEvidence 63 = .ok (.iload_n 2, 1) := by decide +kernel
theorem dX8_meanEvidence_64 : decode cX8_meanEvidence 64 = .ok (.i2d, 1) := by decide +kernel
theorem dX8_meanEvidence_65 : decode cX8_meanEvidence 65 = .ok (.iload_n 1, 1) := by decide +kernel
theorem dX8_meanEvidence_66 : decode cX8_meanEvidence 66 = .ok (.i2d, 1) := by decide +kernel
theorem dX8_meanEvidence_67 : decode cX8_meanEvidence 67 = .ok (.ddiv, 1) := by decide +kernel
theorem dX8_meanEvidence_68 : decode cX8_meanEvidence 68 = .ok (.dreturn, 1) := by decide +kernel
theorem dX8_reversedShare_0 : decode cX8_reversedShare 0 = .ok (.aload_n 0, 1) := by decide +kernel
theorem dX8_reversedShare_1 : decode cX8_reversedShare 1 = .ok (.iconst 0, 1) := by decide +kernel
theorem dX8_reversedShare_2 : decode cX8_reversedShare 2 = .ok (.putfield 84, 3) := by decide +kernel
theorem dX8_reversedShare_5 : decode cX8_reversedShare 5 = .ok (.aload_n 0, 1) := by decide +kernel
theorem dX8_reversedShare_6 : decode cX8_reversedShare 6 = .ok (.getfield 172, 3) := by decide +kernel
theorem dX8_reversedShare_9 : decode cX8_reversedShare 9 = .ok (.ifCond .ne 12, 3) := by decide +kernel
theorem dX8_reversedShare_12 : decode cX8_reversedShare 12 = .ok (.aload_n 0, 1) := by decide +kernel
theorem dX8_reversedShare_13 : decode cX8_reversedShare 13 = .ok (.iconst 1, 1) := by decide +kernel
theorem dX8_reversedShare_14 : decode cX8_reversedShare 14 = .ok (.invokevirtual 103, 3) := by decide +kernel
theorem dX8_reversedShare_17 : decode cX8_reversedShare 17 = .ok (.i2f, 1) := by decide +kernel
theorem dX8_reversedShare_18 : decode cX8_reversedShare 18 = .ok (.goto 14, 3) := by decide +kernel
theorem dX8_reversedShare_21 : decode cX8_reversedShare 21 = .ok (.aload_n 0, 1) := by decide +kernel
theorem dX8_reversedShare_22 : decode cX8_reversedShare 22 = .ok (.getfield 175, 3) := by decide +kernel
theorem dX8_reversedShare_25 : decode cX8_reversedShare 25 = .ok (.i2f, 1) := by decide +kernel
theorem dX8_reversedShare_26 : decode cX8_reversedShare 26 = .ok (.aload_n 0, 1) := by decide +kernel
theorem dX8_reversedShare_27 : decode cX8_reversedShare 27 = .ok (.getfield 172, 3) := by decide +kernel
theorem dX8_reversedShare_30 : decode cX8_reversedShare 30 = .ok (.i2f, 1) := by decide +kernel
theorem dX8_reversedShare_31 : decode cX8_reversedShare 31 = .ok (.fdiv, 1) := by decide +kernel
theorem dX8_reversedShare_32 : decode cX8_reversedShare 32 = .ok (.freturn, 1) := by decide +kernel
theorem dX8_sanctionDays_0 : decode cX8_sanctionDays 0 = .ok (.aload_n 0, 1) := by decide +kernel
theorem dX8_sanctionDays_1 : decode cX8_sanctionDays 1 = .ok (.iconst 0, 1) := by decide +kernel
theorem dX8_sanctionDays_2 : decode cX8_sanctionDays 2 = .ok (.putfield 84, 3) := by decide +kernel
theorem dX8_sanctionDays_5 : decode cX8_sanctionDays 5 = .ok (.aload_n 0, 1) := by decide +kernel
theorem dX8_sanctionDays_6 : decode cX8_sanctionDays 6 = .ok (.getfield 191, 3) := by decide +kernel
theorem dX8_sanctionDays_9 : decode cX8_sanctionDays 9 = .ok (.lreturn, 1) := by decide +kernel
theorem dX8_isConsistent_0 : decode cX8_isConsistent 0 = .ok (.aload_n 0, 1) := by decide +kernel
theorem dX8_isConsistent_1 : decode cX8_isConsistent 1 = .ok (.iconst 0, 1) := by decide +kernel
theorem dX8_isConsistent_2 : decode cX8_isConsistent 2 = .ok (.putfield 84, 3) := by decide +kernel
theorem dX8_isConsistent_5 : decode cX8_isConsistent 5 = .ok (.iconst 1, 1) := by decide +kernel
theorem dX8_isConsistent_6 : decode cX8_isConsistent 6 = .ok (.ireturn, 1) := by decide +kernel
