abbrev c_Modl_finds : ByteArray := prog_11_method_47_code
abbrev y_Modl_finds : MethodName := ⟨"FactorDeskModel", "finds", "()V"⟩
theorem d_Modl_finds_0 : decode c_Modl_finds 0 = .ok (.aload_n 0, 1) := by decide +kernel
theorem d_Modl_finds_1 : decode c_Modl_finds 1 = .ok (.iconst 0, 1) := by decide +kernel
theorem d_Modl_finds_2 : decode c_Modl_finds 2 = .ok (.putfield 243, 3) := by decide +kernel
theorem d_Modl_finds_5 : decode c_Modl_finds 5 = .ok (.aload_n 0, 1) := by decide +kernel
theorem d_Modl_finds_6 : decode c_Modl_finds 6 = .ok (.getfield 153, 3) := by decide +kernel
theorem d_Modl_finds_9 : decode c_Modl_finds 9 = .ok (.ifCond .ne 4, 3) := by decide +kernel
theorem d_Modl_finds_12 : decode c_Modl_finds 12 = .ok (.return_, 1) := by decide +kernel
theorem d_Modl_finds_13 : decode c_Modl_finds 13 = .ok (.aload_n 0, 1) := by decide +kernel
theorem d_Modl_finds_14 : decode c_Modl_finds 14 = .ok (.invokevirtual 249, 3) := by decide +kernel
theorem d_Modl_finds_17 : decode c_Modl_finds 17 = .ok (.iconst 1, 1) := by decide +kernel
theorem d_Modl_finds_18 : decode c_Modl_finds 18 = .ok (.istore_n 1, 1) := by decide +kernel
theorem d_Modl_finds_19 : decode c_Modl_finds 19 = .ok (.iload_n 1, 1) := by decide +kernel
theorem d_Modl_finds_20 : decode c_Modl_finds 20 = .ok (.aload_n 0, 1) := by decide +kernel
theorem d_Modl_finds_21 : decode c_Modl_finds 21 = .ok (.getfield 153, 3) := by decide +kernel
theorem d_Modl_finds_24 : decode c_Modl_finds 24 = .ok (.if_icmp .gt 26, 3) := by decide +kernel
theorem d_Modl_finds_27 : decode c_Modl_finds 27 = .ok (.aload_n 0, 1) := by decide +kernel
theorem d_Modl_finds_28 : decode c_Modl_finds 28 = .ok (.getfield 79, 3) := by decide +kernel
theorem d_Modl_finds_31 : decode c_Modl_finds 31 = .ok (.iload_n 1, 1) := by decide +kernel
theorem d_Modl_finds_32 : decode c_Modl_finds 32 = .ok (.iconst 1, 1) := by decide +kernel
theorem d_Modl_finds_33 : decode c_Modl_finds 33 = .ok (.isub, 1) := by decide +kernel
theorem d_Modl_finds_34 : decode c_Modl_finds 34 = .ok (.aload_n 0, 1) := by decide +kernel
theorem d_Modl_finds_35 : decode c_Modl_finds 35 = .ok (.getfield 70, 3) := by decide +kernel
theorem d_Modl_finds_38 : decode c_Modl_finds 38 = .ok (.iload_n 1, 1) := by decide +kernel
theorem d_Modl_finds_39 : decode c_Modl_finds 39 = .ok (.laload, 1) := by decide +kernel
theorem d_Modl_finds_40 : decode c_Modl_finds 40 = .ok (.iload_n 1, 1) := by decide +kernel
theorem d_Modl_finds_41 : decode c_Modl_finds 41 = .ok (.i2l, 1) := by decide +kernel
theorem d_Modl_finds_42 : decode c_Modl_finds 42 = .ok (.lmul, 1) := by decide +kernel
theorem d_Modl_finds_43 : decode c_Modl_finds 43 = .ok (.lastore, 1) := by decide +kernel
theorem d_Modl_finds_44 : decode c_Modl_finds 44 = .ok (.iinc 1 1, 3) := by decide +kernel
theorem d_Modl_finds_47 : decode c_Modl_finds 47 = .ok (.goto (-28), 3) := by decide +kernel
theorem d_Modl_finds_50 : decode c_Modl_finds 50 = .ok (.aload_n 0, 1) := by decide +kernel
theorem d_Modl_finds_51 : decode c_Modl_finds 51 = .ok (.aload_n 0, 1) := by decide +kernel
theorem d_Modl_finds_52 : decode c_Modl_finds 52 = .ok (.getfield 70, 3) := by decide +kernel
theorem d_Modl_finds_55 : decode c_Modl_finds 55 = .ok (.aload_n 0, 1) := by decide +kernel
theorem d_Modl_finds_56 : decode c_Modl_finds 56 = .ok (.getfield 153, 3) := by decide +kernel
theorem d_Modl_finds_59 : decode c_Modl_finds 59 = .ok (.aload_n 0, 1) := by decide +kernel
theorem d_Modl_finds_60 : decode c_Modl_finds 60 = .ok (.getfield 79, 3) := by decide +kernel
theorem d_Modl_finds_63 : decode c_Modl_finds 63 = .ok (.aload_n 0, 1) := by decide +kernel
theorem d_Modl_finds_64 : decode c_Modl_finds 64 = .ok (.getfield 153, 3) := by decide +kernel
theorem d_Modl_finds_67 : decode c_Modl_finds 67 = .ok (.iconst 1, 1) := by decide +kernel
theorem d_Modl_finds_68 : decode c_Modl_finds 68 = .ok (.isub, 1) := by decide +kernel
theorem d_Modl_finds_69 : decode c_Modl_finds 69 = .ok (.invokevirtual 252, 3) := by decide +kernel
theorem d_Modl_finds_72 : decode c_Modl_finds 72 = .ok (.pop, 1) := by decide +kernel
theorem d_Modl_finds_73 : decode c_Modl_finds 73 = .ok (.aload_n 0, 1) := by decide +kernel
theorem d_Modl_finds_74 : decode c_Modl_finds 74 = .ok (.iconst 3, 1) := by decide +kernel
theorem d_Modl_finds_75 : decode c_Modl_finds 75 = .ok (.aload_n 0, 1) := by decide +kernel
theorem d_Modl_finds_76 : decode c_Modl_finds 76 = .ok (.getfield 70, 3) := by decide +kernel
theorem d_Modl_finds_79 : decode c_Modl_finds 79 = .ok (.aload_n 0, 1) := by decide +kernel
theorem d_Modl_finds_80 : decode c_Modl_finds 80 = .ok (.getfield 153, 3) := by decide +kernel
theorem d_Modl_finds_83 : decode c_Modl_finds 83 = .ok (.invokevirtual 191, 3) := by decide +kernel
theorem d_Modl_finds_86 : decode c_Modl_finds 86 = .ok (.aload_n 0, 1) := by decide +kernel
theorem d_Modl_finds_87 : decode c_Modl_finds 87 = .ok (.iconst 4, 1) := by decide +kernel
theorem d_Modl_finds_88 : decode c_Modl_finds 88 = .ok (.iconst 3, 1) := by decide +kernel
theorem d_Modl_finds_89 : decode c_Modl_finds 89 = .ok (.invokevirtual 256, 3) := by decide +kernel
theorem d_Modl_finds_92 : decode c_Modl_finds 92 = .ok (.aload_n 0, 1) := by decide +kernel
theorem d_Modl_finds_93 : decode c_Modl_finds 93 = .ok (.iconst 5, 1) := by decide +kernel
theorem d_Modl_finds_94 : decode c_Modl_finds 94 = .ok (.iconst 3, 1) := by decide +kernel
theorem d_Modl_finds_95 : decode c_Modl_finds 95 = .ok (.iconst 4, 1) := by decide +kernel
theorem d_Modl_finds_96 : decode c_Modl_finds 96 = .ok (.invokevirtual 195, 3) := by decide +kernel
theorem d_Modl_finds_99 : decode c_Modl_finds 99 = .ok (.aload_n 0, 1) := by decide +kernel
theorem d_Modl_finds_100 : decode c_Modl_finds 100 = .ok (.iconst 3, 1) := by decide +kernel
theorem d_Modl_finds_101 : decode c_Modl_finds 101 = .ok (.aload_n 0, 1) := by decide +kernel
theorem d_Modl_finds_102 : decode c_Modl_finds 102 = .ok (.getfield 70, 3) := by decide +kernel
theorem d_Modl_finds_105 : decode c_Modl_finds 105 = .ok (.aload_n 0, 1) := by decide +kernel
theorem d_Modl_finds_106 : decode c_Modl_finds 106 = .ok (.getfield 153, 3) := by decide +kernel
theorem d_Modl_finds_109 : decode c_Modl_finds 109 = .ok (.invokevirtual 191, 3) := by decide +kernel
theorem d_Modl_finds_112 : decode c_Modl_finds 112 = .ok (.aload_n 0, 1) := by decide +kernel
theorem d_Modl_finds_113 : decode c_Modl_finds 113 = .ok (.iconst 3, 1) := by decide +kernel
theorem d_Modl_finds_114 : decode c_Modl_finds 114 = .ok (.invokevirtual 141, 3) := by decide +kernel
theorem d_Modl_finds_117 : decode c_Modl_finds 117 = .ok (.aload_n 0, 1) := by decide +kernel
theorem d_Modl_finds_118 : decode c_Modl_finds 118 = .ok (.bipush 11, 2) := by decide +kernel
theorem d_Modl_finds_120 : decode c_Modl_finds 120 = .ok (.iconst 3, 1) := by decide +kernel
theorem d_Modl_finds_121 : decode c_Modl_finds 121 = .ok (.iconst 5, 1) := by decide +kernel
theorem d_Modl_finds_122 : decode c_Modl_finds 122 = .ok (.invokevirtual 221, 3) := by decide +kernel
theorem d_Modl_finds_125 : decode c_Modl_finds 125 = .ok (.aload_n 0, 1) := by decide +kernel
theorem d_Modl_finds_126 : decode c_Modl_finds 126 = .ok (.invokevirtual 259, 3) := by decide +kernel
theorem d_Modl_finds_129 : decode c_Modl_finds 129 = .ok (.iconst 0, 1) := by decide +kernel
theorem d_Modl_finds_130 : decode c_Modl_finds 130 = .ok (.istore_n 1, 1) := by decide +kernel
theorem d_Modl_finds_131 : decode c_Modl_finds 131 = .ok (.iload_n 1, 1) := by decide +kernel
theorem d_Modl_finds_132 : decode c_Modl_finds 132 = .ok (.aload_n 0, 1) := by decide +kernel
theorem d_Modl_finds_133 : decode c_Modl_finds 133 = .ok (.getfield 205, 3) := by decide +kernel
theorem d_Modl_finds_136 : decode c_Modl_finds 136 = .ok (.if_icmp .ge 14, 3) := by decide +kernel
theorem d_Modl_finds_139 : decode c_Modl_finds 139 = .ok (.aload_n 0, 1) := by decide +kernel
theorem d_Modl_finds_140 : decode c_Modl_finds 140 = .ok (.iload_n 1, 1) := by decide +kernel
theorem d_Modl_finds_141 : decode c_Modl_finds 141 = .ok (.invokevirtual 262, 3) := by decide +kernel
theorem d_Modl_finds_144 : decode c_Modl_finds 144 = .ok (.iinc 1 1, 3) := by decide +kernel
theorem d_Modl_finds_147 : decode c_Modl_finds 147 = .ok (.goto (-16), 3) := by decide +kernel
theorem d_Modl_finds_150 : decode c_Modl_finds 150 = .ok (.iconst 1, 1) := by decide +kernel
theorem d_Modl_finds_151 : decode c_Modl_finds 151 = .ok (.istore_n 1, 1) := by decide +kernel
theorem d_Modl_finds_152 : decode c_Modl_finds 152 = .ok (.iload_n 1, 1) := by decide +kernel
theorem d_Modl_finds_153 : decode c_Modl_finds 153 = .ok (.aload_n 0, 1) := by decide +kernel
theorem d_Modl_finds_154 : decode c_Modl_finds 154 = .ok (.getfield 153, 3) := by decide +kernel
theorem d_Modl_finds_157 : decode c_Modl_finds 157 = .ok (.if_icmp .gt 78, 3) := by decide +kernel
theorem d_Modl_finds_160 : decode c_Modl_finds 160 = .ok (.aload_n 0, 1) := by decide +kernel
theorem d_Modl_finds_161 : decode c_Modl_finds 161 = .ok (.iload_n 1, 1) := by decide +kernel
theorem d_Modl_finds_162 : decode c_Modl_finds 162 = .ok (.invokevirtual 265, 3) := by decide +kernel
theorem d_Modl_finds_165 : decode c_Modl_finds 165 = .ok (.istore_n 2, 1) := by decide +kernel
theorem d_Modl_finds_166 : decode c_Modl_finds 166 = .ok (.iload_n 2, 1) := by decide +kernel
theorem d_Modl_finds_167 : decode c_Modl_finds 167 = .ok (.ifCond .le 62, 3) := by decide +kernel
theorem d_Modl_finds_170 : decode c_Modl_finds 170 = .ok (.aload_n 0, 1) := by decide +kernel
theorem d_Modl_finds_171 : decode c_Modl_finds 171 = .ok (.iload_n 1, 1) := by decide +kernel
theorem d_Modl_finds_172 : decode c_Modl_finds 172 = .ok (.invokevirtual 268, 3) := by decide +kernel
theorem d_Modl_finds_175 : decode c_Modl_finds 175 = .ok (.iconst 0, 1) := by decide +kernel
theorem d_Modl_finds_176 : decode c_Modl_finds 176 = .ok (.istore_n 3, 1) := by decide +kernel
theorem d_Modl_finds_177 : decode c_Modl_finds 177 = .ok (.iload_n 3, 1) := by decide +kernel
theorem d_Modl_finds_178 : decode c_Modl_finds 178 = .ok (.aload_n 0, 1) := by decide +kernel
theorem d_Modl_finds_179 : decode c_Modl_finds 179 = .ok (.getfield 205, 3) := by decide +kernel
theorem d_Modl_finds_182 : decode c_Modl_finds 182 = .ok (.if_icmp .ge 38, 3) := by decide +kernel
theorem d_Modl_finds_185 : decode c_Modl_finds 185 = .ok (.aload_n 0, 1) := by decide +kernel
theorem d_Modl_finds_186 : decode c_Modl_finds 186 = .ok (.getfield 63, 3) := by decide +kernel
theorem d_Modl_finds_189 : decode c_Modl_finds 189 = .ok (.iload_n 3, 1) := by decide +kernel
theorem d_Modl_finds_190 : decode c_Modl_finds 190 = .ok (.aload_n 0, 1) := by decide +kernel
theorem d_Modl_finds_191 : decode c_Modl_finds 191 = .ok (.getfield 63, 3) := by decide +kernel
theorem d_Modl_finds_194 : decode c_Modl_finds 194 = .ok (.iload_n 3, 1) := by decide +kernel
theorem d_Modl_finds_195 : decode c_Modl_finds 195 = .ok (.baload, 1) := by decide +kernel
theorem d_Modl_finds_196 : decode c_Modl_finds 196 = .ok (.ifCond .ne 12, 3) := by decide +kernel
theorem d_Modl_finds_199 : decode c_Modl_finds 199 = .ok (.iload_n 2, 1) := by decide +kernel
theorem d_Modl_finds_200 : decode c_Modl_finds 200 = .ok (.iload_n 3, 1) := by decide +kernel
theorem d_Modl_finds_201 : decode c_Modl_finds 201 = .ok (.ishr, 1) := by decide +kernel
theorem d_Modl_finds_202 : decode c_Modl_finds 202 = .ok (.iconst 1, 1) := by decide +kernel
theorem d_Modl_finds_203 : decode c_Modl_finds 203 = .ok (.iand, 1) := by decide +kernel
theorem d_Modl_finds_204 : decode c_Modl_finds 204 = .ok (.iconst 1, 1) := by decide +kernel
theorem d_Modl_finds_205 : decode c_Modl_finds 205 = .ok (.if_icmp .ne 7, 3) := by decide +kernel
theorem d_Modl_finds_208 : decode c_Modl_finds 208 = .ok (.iconst 1, 1) := by decide +kernel
theorem d_Modl_finds_209 : decode c_Modl_finds 209 = .ok (.goto 4, 3) := by decide +kernel
theorem d_Modl_finds_212 : decode c_Modl_finds 212 = .ok (.iconst 0, 1) := by decide +kernel
theorem d_Modl_finds_213 : decode c_Modl_finds 213 = .ok (.bastore, 1) := by decide +kernel
theorem d_Modl_finds_214 : decode c_Modl_finds 214 = .ok (.iinc 3 1, 3) := by decide +kernel
theorem d_Modl_finds_217 : decode c_Modl_finds 217 = .ok (.goto (-40), 3) := by decide +kernel
theorem d_Modl_finds_220 : decode c_Modl_finds 220 = .ok (.aload_n 0, 1) := by decide +kernel
theorem d_Modl_finds_221 : decode c_Modl_finds 221 = .ok (.iload_n 1, 1) := by decide +kernel
theorem d_Modl_finds_222 : decode c_Modl_finds 222 = .ok (.invokevirtual 265, 3) := by decide +kernel
theorem d_Modl_finds_225 : decode c_Modl_finds 225 = .ok (.istore_n 2, 1) := by decide +kernel
theorem d_Modl_finds_226 : decode c_Modl_finds 226 = .ok (.goto (-60), 3) := by decide +kernel
theorem d_Modl_finds_229 : decode c_Modl_finds 229 = .ok (.iinc 1 1, 3) := by decide +kernel
theorem d_Modl_finds_232 : decode c_Modl_finds 232 = .ok (.goto (-80), 3) := by decide +kernel
theorem d_Modl_finds_235 : decode c_Modl_finds 235 = .ok (.return_, 1) := by decide +kernel
abbrev c_Modl_factors : ByteArray := prog_11_method_57_code
abbrev y_Modl_factors : MethodName := ⟨"FactorDeskModel", "factors", "()I"⟩
theorem d_Modl_factors_0 : decode c_Modl_factors 0 = .ok (.aload_n 0, 1) := by decide +kernel
theorem d_Modl_factors_1 : decode c_Modl_factors 1 = .ok (.iconst 0, 1) := by decide +kernel
theorem d_Modl_factors_2 : decode c_Modl_factors 2 = .ok (.putfield 82, 3) := by decide +kernel
theorem d_Modl_factors_5 : decode c_Modl_factors 5 = .ok (.aload_n 0, 1) := by decide +kernel
theorem d_Modl_factors_6 : decode c_Modl_factors 6 = .ok (.invokevirtual 290, 3) := by decide +kernel
theorem d_Modl_factors_9 : decode c_Modl_factors 9 = .ok (.aload_n 0, 1) := by decide +kernel
theorem d_Modl_factors_10 : decode c_Modl_factors 10 = .ok (.aload_n 0, 1) := by decide +kernel
theorem d_Modl_factors_11 : decode c_Modl_factors 11 = .ok (.getfield 243, 3) := by decide +kernel
theorem d_Modl_factors_14 : decode c_Modl_factors 14 = .ok (.putfield 293, 3) := by decide +kernel
theorem d_Modl_factors_17 : decode c_Modl_factors 17 = .ok (.iconst 0, 1) := by decide +kernel
theorem d_Modl_factors_18 : decode c_Modl_factors 18 = .ok (.istore_n 1, 1) := by decide +kernel
theorem d_Modl_factors_19 : decode c_Modl_factors 19 = .ok (.iload_n 1, 1) := by decide +kernel
theorem d_Modl_factors_20 : decode c_Modl_factors 20 = .ok (.sipush 156, 3) := by decide +kernel
theorem d_Modl_factors_23 : decode c_Modl_factors 23 = .ok (.if_icmp .ge 21, 3) := by decide +kernel
theorem d_Modl_factors_26 : decode c_Modl_factors 26 = .ok (.aload_n 0, 1) := by decide +kernel
theorem d_Modl_factors_27 : decode c_Modl_factors 27 = .ok (.getfield 19, 3) := by decide +kernel
theorem d_Modl_factors_30 : decode c_Modl_factors 30 = .ok (.iload_n 1, 1) := by decide +kernel
theorem d_Modl_factors_31 : decode c_Modl_factors 31 = .ok (.aload_n 0, 1) := by decide +kernel
theorem d_Modl_factors_32 : decode c_Modl_factors 32 = .ok (.getfield 29, 3) := by decide +kernel
theorem d_Modl_factors_35 : decode c_Modl_factors 35 = .ok (.iload_n 1, 1) := by decide +kernel
theorem d_Modl_factors_36 : decode c_Modl_factors 36 = .ok (.laload, 1) := by decide +kernel
theorem d_Modl_factors_37 : decode c_Modl_factors 37 = .ok (.lastore, 1) := by decide +kernel
theorem d_Modl_factors_38 : decode c_Modl_factors 38 = .ok (.iinc 1 1, 3) := by decide +kernel
theorem d_Modl_factors_41 : decode c_Modl_factors 41 = .ok (.goto (-22), 3) := by decide +kernel
theorem d_Modl_factors_44 : decode c_Modl_factors 44 = .ok (.iconst 0, 1) := by decide +kernel
theorem d_Modl_factors_45 : decode c_Modl_factors 45 = .ok (.istore_n 1, 1) := by decide +kernel
theorem d_Modl_factors_46 : decode c_Modl_factors 46 = .ok (.iload_n 1, 1) := by decide +kernel
theorem d_Modl_factors_47 : decode c_Modl_factors 47 = .ok (.aload_n 0, 1) := by decide +kernel
theorem d_Modl_factors_48 : decode c_Modl_factors 48 = .ok (.getfield 243, 3) := by decide +kernel
theorem d_Modl_factors_51 : decode c_Modl_factors 51 = .ok (.if_icmp .ge 33, 3) := by decide +kernel
theorem d_Modl_factors_54 : decode c_Modl_factors 54 = .ok (.aload_n 0, 1) := by decide +kernel
theorem d_Modl_factors_55 : decode c_Modl_factors 55 = .ok (.getfield 22, 3) := by decide +kernel
theorem d_Modl_factors_58 : decode c_Modl_factors 58 = .ok (.iload_n 1, 1) := by decide +kernel
theorem d_Modl_factors_59 : decode c_Modl_factors 59 = .ok (.aload_n 0, 1) := by decide +kernel
theorem d_Modl_factors_60 : decode c_Modl_factors 60 = .ok (.getfield 32, 3) := by decide +kernel
theorem d_Modl_factors_63 : decode c_Modl_factors 63 = .ok (.iload_n 1, 1) := by decide +kernel
theorem d_Modl_factors_64 : decode c_Modl_factors 64 = .ok (.iaload, 1) := by decide +kernel
theorem d_Modl_factors_65 : decode c_Modl_factors 65 = .ok (.iastore, 1) := by decide +kernel
theorem d_Modl_factors_66 : decode c_Modl_factors 66 = .ok (.aload_n 0, 1) := by decide +kernel
theorem d_Modl_factors_67 : decode c_Modl_factors 67 = .ok (.getfield 26, 3) := by decide +kernel
theorem d_Modl_factors_70 : decode c_Modl_factors 70 = .ok (.iload_n 1, 1) := by decide +kernel
theorem d_Modl_factors_71 : decode c_Modl_factors 71 = .ok (.aload_n 0, 1) := by decide +kernel
theorem d_Modl_factors_72 : decode c_Modl_factors 72 = .ok (.getfield 35, 3) := by decide +kernel
theorem d_Modl_factors_75 : decode c_Modl_factors 75 = .ok (.iload_n 1, 1) := by decide +kernel
theorem d_Modl_factors_76 : decode c_Modl_factors 76 = .ok (.iaload, 1) := by decide +kernel
theorem d_Modl_factors_77 : decode c_Modl_factors 77 = .ok (.iastore, 1) := by decide +kernel
theorem d_Modl_factors_78 : decode c_Modl_factors 78 = .ok (.iinc 1 1, 3) := by decide +kernel
theorem d_Modl_factors_81 : decode c_Modl_factors 81 = .ok (.goto (-35), 3) := by decide +kernel
theorem d_Modl_factors_84 : decode c_Modl_factors 84 = .ok (.aload_n 0, 1) := by decide +kernel
theorem d_Modl_factors_85 : decode c_Modl_factors 85 = .ok (.getfield 293, 3) := by decide +kernel
theorem d_Modl_factors_88 : decode c_Modl_factors 88 = .ok (.ireturn, 1) := by decide +kernel
abbrev c_Modl_ofDegree : ByteArray := prog_11_method_61_code
abbrev y_Modl_ofDegree : MethodName := ⟨"FactorDeskModel", "ofDegree", "(I)I"⟩
theorem d_Modl_ofDegree_0 : decode c_Modl_ofDegree 0 = .ok (.aload_n 0, 1) := by decide +kernel
theorem d_Modl_ofDegree_1 : decode c_Modl_ofDegree 1 = .ok (.iload_n 1, 1) := by decide +kernel
theorem d_Modl_ofDegree_2 : decode c_Modl_ofDegree 2 = .ok (.iconst 1, 1) := by decide +kernel
theorem d_Modl_ofDegree_3 : decode c_Modl_ofDegree 3 = .ok (.if_icmp .lt 9, 3) := by decide +kernel
theorem d_Modl_ofDegree_6 : decode c_Modl_ofDegree 6 = .ok (.iload_n 1, 1) := by decide +kernel
theorem d_Modl_ofDegree_7 : decode c_Modl_ofDegree 7 = .ok (.bipush 12, 2) := by decide +kernel
theorem d_Modl_ofDegree_9 : decode c_Modl_ofDegree 9 = .ok (.if_icmp .le 7, 3) := by decide +kernel
theorem d_Modl_ofDegree_12 : decode c_Modl_ofDegree 12 = .ok (.iconst 1, 1) := by decide +kernel
theorem d_Modl_ofDegree_13 : decode c_Modl_ofDegree 13 = .ok (.goto 4, 3) := by decide +kernel
theorem d_Modl_ofDegree_16 : decode c_Modl_ofDegree 16 = .ok (.iconst 0, 1) := by decide +kernel
theorem d_Modl_ofDegree_17 : decode c_Modl_ofDegree 17 = .ok (.iconst 1, 1) := by decide +kernel
theorem d_Modl_ofDegree_18 : decode c_Modl_ofDegree 18 = .ok (.invokevirtual 274, 3) := by decide +kernel
theorem d_Modl_ofDegree_21 : decode c_Modl_ofDegree 21 = .ok (.ifCond .eq 5, 3) := by decide +kernel
theorem d_Modl_ofDegree_24 : decode c_Modl_ofDegree 24 = .ok (.iconst 0, 1) := by decide +kernel
theorem d_Modl_ofDegree_25 : decode c_Modl_ofDegree 25 = .ok (.ireturn, 1) := by decide +kernel
theorem d_Modl_ofDegree_26 : decode c_Modl_ofDegree 26 = .ok (.aload_n 0, 1) := by decide +kernel
theorem d_Modl_ofDegree_27 : decode c_Modl_ofDegree 27 = .ok (.invokevirtual 290, 3) := by decide +kernel
theorem d_Modl_ofDegree_30 : decode c_Modl_ofDegree 30 = .ok (.iconst 0, 1) := by decide +kernel
theorem d_Modl_ofDegree_31 : decode c_Modl_ofDegree 31 = .ok (.istore_n 2, 1) := by decide +kernel
theorem d_Modl_ofDegree_32 : decode c_Modl_ofDegree 32 = .ok (.iconst 0, 1) := by decide +kernel
theorem d_Modl_ofDegree_33 : decode c_Modl_ofDegree 33 = .ok (.istore_n 3, 1) := by decide +kernel
theorem d_Modl_ofDegree_34 : decode c_Modl_ofDegree 34 = .ok (.iload_n 3, 1) := by decide +kernel
theorem d_Modl_ofDegree_35 : decode c_Modl_ofDegree 35 = .ok (.aload_n 0, 1) := by decide +kernel
theorem d_Modl_ofDegree_36 : decode c_Modl_ofDegree 36 = .ok (.getfield 243, 3) := by decide +kernel
theorem d_Modl_ofDegree_39 : decode c_Modl_ofDegree 39 = .ok (.if_icmp .ge 32, 3) := by decide +kernel
theorem d_Modl_ofDegree_42 : decode c_Modl_ofDegree 42 = .ok (.iload_n 2, 1) := by decide +kernel
theorem d_Modl_ofDegree_43 : decode c_Modl_ofDegree 43 = .ok (.aload_n 0, 1) := by decide +kernel
theorem d_Modl_ofDegree_44 : decode c_Modl_ofDegree 44 = .ok (.getfield 32, 3) := by decide +kernel
theorem d_Modl_ofDegree_47 : decode c_Modl_ofDegree 47 = .ok (.iload_n 3, 1) := by decide +kernel
theorem d_Modl_ofDegree_48 : decode c_Modl_ofDegree 48 = .ok (.iaload, 1) := by decide +kernel
theorem d_Modl_ofDegree_49 : decode c_Modl_ofDegree 49 = .ok (.iload_n 1, 1) := by decide +kernel
theorem d_Modl_ofDegree_50 : decode c_Modl_ofDegree 50 = .ok (.if_icmp .ne 12, 3) := by decide +kernel
theorem d_Modl_ofDegree_53 : decode c_Modl_ofDegree 53 = .ok (.aload_n 0, 1) := by decide +kernel
theorem d_Modl_ofDegree_54 : decode c_Modl_ofDegree 54 = .ok (.getfield 35, 3) := by decide +kernel
theorem d_Modl_ofDegree_57 : decode c_Modl_ofDegree 57 = .ok (.iload_n 3, 1) := by decide +kernel
theorem d_Modl_ofDegree_58 : decode c_Modl_ofDegree 58 = .ok (.iaload, 1) := by decide +kernel
theorem d_Modl_ofDegree_59 : decode c_Modl_ofDegree 59 = .ok (.goto 4, 3) := by decide +kernel
theorem d_Modl_ofDegree_62 : decode c_Modl_ofDegree 62 = .ok (.iconst 0, 1) := by decide +kernel
theorem d_Modl_ofDegree_63 : decode c_Modl_ofDegree 63 = .ok (.iadd, 1) := by decide +kernel
theorem d_Modl_ofDegree_64 : decode c_Modl_ofDegree 64 = .ok (.istore_n 2, 1) := by decide +kernel
theorem d_Modl_ofDegree_65 : decode c_Modl_ofDegree 65 = .ok (.iinc 3 1, 3) := by decide +kernel
theorem d_Modl_ofDegree_68 : decode c_Modl_ofDegree 68 = .ok (.goto (-34), 3) := by decide +kernel
theorem d_Modl_ofDegree_71 : decode c_Modl_ofDegree 71 = .ok (.iload_n 2, 1) := by decide +kernel
theorem d_Modl_ofDegree_72 : decode c_Modl_ofDegree 72 = .ok (.ireturn, 1) := by decide +kernel
abbrev c_Modl_value : ByteArray := prog_11_method_65_code
abbrev y_Modl_value : MethodName := ⟨"FactorDeskModel", "value", "(JI)J"⟩
theorem d_Modl_value_0 : decode c_Modl_value 0 = .ok (.aload_n 0, 1) := by decide +kernel
theorem d_Modl_value_1 : decode c_Modl_value 1 = .ok (.iload_n 3, 1) := by decide +kernel
theorem d_Modl_value_2 : decode c_Modl_value 2 = .ok (.iconst 1, 1) := by decide +kernel
theorem d_Modl_value_3 : decode c_Modl_value 3 = .ok (.if_icmp .ge 7, 3) := by decide +kernel
theorem d_Modl_value_6 : decode c_Modl_value 6 = .ok (.iconst 1, 1) := by decide +kernel
theorem d_Modl_value_7 : decode c_Modl_value 7 = .ok (.goto 4, 3) := by decide +kernel
theorem d_Modl_value_10 : decode c_Modl_value 10 = .ok (.iconst 0, 1) := by decide +kernel
theorem d_Modl_value_11 : decode c_Modl_value 11 = .ok (.iconst 1, 1) := by decide +kernel
theorem d_Modl_value_12 : decode c_Modl_value 12 = .ok (.invokevirtual 274, 3) := by decide +kernel
theorem d_Modl_value_15 : decode c_Modl_value 15 = .ok (.ifCond .eq 5, 3) := by decide +kernel
theorem d_Modl_value_18 : decode c_Modl_value 18 = .ok (.lconst 0, 1) := by decide +kernel
theorem d_Modl_value_19 : decode c_Modl_value 19 = .ok (.lreturn, 1) := by decide +kernel
theorem d_Modl_value_20 : decode c_Modl_value 20 = .ok (.lload_n 1, 1) := by decide +kernel
theorem d_Modl_value_21 : decode c_Modl_value 21 = .ok (.iload_n 3, 1) := by decide +kernel
theorem d_Modl_value_22 : decode c_Modl_value 22 = .ok (.i2l, 1) := by decide +kernel
theorem d_Modl_value_23 : decode c_Modl_value 23 = .ok (.lrem, 1) := by decide +kernel
theorem d_Modl_value_24 : decode c_Modl_value 24 = .ok (.iload_n 3, 1) := by decide +kernel
theorem d_Modl_value_25 : decode c_Modl_value 25 = .ok (.i2l, 1) := by decide +kernel
theorem d_Modl_value_26 : decode c_Modl_value 26 = .ok (.ladd, 1) := by decide +kernel
theorem d_Modl_value_27 : decode c_Modl_value 27 = .ok (.iload_n 3, 1) := by decide +kernel
theorem d_Modl_value_28 : decode c_Modl_value 28 = .ok (.i2l, 1) := by decide +kernel
theorem d_Modl_value_29 : decode c_Modl_value 29 = .ok (.lrem, 1) := by decide +kernel
theorem d_Modl_value_30 : decode c_Modl_value 30 = .ok (.lstore 4, 2) := by decide +kernel
theorem d_Modl_value_32 : decode c_Modl_value 32 = .ok (.lconst 0, 1) := by decide +kernel
theorem d_Modl_value_33 : decode c_Modl_value 33 = .ok (.lstore 6, 2) := by decide +kernel
theorem d_Modl_value_35 : decode c_Modl_value 35 = .ok (.aload_n 0, 1) := by decide +kernel
theorem d_Modl_value_36 : decode c_Modl_value 36 = .ok (.getfield 153, 3) := by decide +kernel
theorem d_Modl_value_39 : decode c_Modl_value 39 = .ok (.istore 8, 2) := by decide +kernel
theorem d_Modl_value_41 : decode c_Modl_value 41 = .ok (.iload 8, 2) := by decide +kernel
theorem d_Modl_value_43 : decode c_Modl_value 43 = .ok (.ifCond .lt 33, 3) := by decide +kernel
theorem d_Modl_value_46 : decode c_Modl_value 46 = .ok (.lload 6, 2) := by decide +kernel
theorem d_Modl_value_48 : decode c_Modl_value 48 = .ok (.lload 4, 2) := by decide +kernel
theorem d_Modl_value_50 : decode c_Modl_value 50 = .ok (.lmul, 1) := by decide +kernel
theorem d_Modl_value_51 : decode c_Modl_value 51 = .ok (.aload_n 0, 1) := by decide +kernel
theorem d_Modl_value_52 : decode c_Modl_value 52 = .ok (.getfield 13, 3) := by decide +kernel
theorem d_Modl_value_55 : decode c_Modl_value 55 = .ok (.iload 8, 2) := by decide +kernel
theorem d_Modl_value_57 : decode c_Modl_value 57 = .ok (.laload, 1) := by decide +kernel
theorem d_Modl_value_58 : decode c_Modl_value 58 = .ok (.ladd, 1) := by decide +kernel
theorem d_Modl_value_59 : decode c_Modl_value 59 = .ok (.iload_n 3, 1) := by decide +kernel
theorem d_Modl_value_60 : decode c_Modl_value 60 = .ok (.i2l, 1) := by decide +kernel
theorem d_Modl_value_61 : decode c_Modl_value 61 = .ok (.lrem, 1) := by decide +kernel
theorem d_Modl_value_62 : decode c_Modl_value 62 = .ok (.iload_n 3, 1) := by decide +kernel
theorem d_Modl_value_63 : decode c_Modl_value 63 = .ok (.i2l, 1) := by decide +kernel
theorem d_Modl_value_64 : decode c_Modl_value 64 = .ok (.ladd, 1) := by decide +kernel
theorem d_Modl_value_65 : decode c_Modl_value 65 = .ok (.iload_n 3, 1) := by decide +kernel
theorem d_Modl_value_66 : decode c_Modl_value 66 = .ok (.i2l, 1) := by decide +kernel
theorem d_Modl_value_67 : decode c_Modl_value 67 = .ok (.lrem, 1) := by decide +kernel
theorem d_Modl_value_68 : decode c_Modl_value 68 = .ok (.lstore 6, 2) := by decide +kernel
theorem d_Modl_value_70 : decode c_Modl_value 70 = .ok (.iinc 8 (-1), 3) := by decide +kernel
theorem d_Modl_value_73 : decode c_Modl_value 73 = .ok (.goto (-32), 3) := by decide +kernel
theorem d_Modl_value_76 : decode c_Modl_value 76 = .ok (.lload 6, 2) := by decide +kernel
theorem d_Modl_value_78 : decode c_Modl_value 78 = .ok (.lreturn, 1) := by decide +kernel
theorem g_866 : jG (Jvm.Cond.fieldLink "FactorDeskModel" (243 : Nat) "FactorDeskModel" "found" "I") := jG_of 931 (by decide +kernel) (by decide +kernel)
theorem g_1016 : jG (Jvm.Cond.methodLink "FactorDeskModel" (290 : Nat) ({ cls := "FactorDeskModel", name := "finds", desc := "()V" } : Jvm.MethodName)) := jG_of 1081 (by decide +kernel) (by decide +kernel)
theorem g_1019 : jG (Jvm.Cond.code ({ cls := "FactorDeskModel", name := "finds", desc := "()V" } : Jvm.MethodName) prog_11_method_47_code (4 : Nat) (Option.none : Option Jvm.ClassFile.FieldType)) := jG_of 1084 (by decide +kernel) (by decide +kernel)
theorem g_1018 : jG (Jvm.Cond.instanceMethod ({ cls := "FactorDeskModel", name := "finds", desc := "()V" } : Jvm.MethodName)) := jG_of 1083 (by decide +kernel) (by decide +kernel)
theorem gp_25 : jG (Jvm.Cond.selects "FactorDeskModel" ({ cls := "FactorDeskModel", name := "finds", desc := "()V" } : Jvm.MethodName) ({ cls := "FactorDeskModel", name := "finds", desc := "()V" } : Jvm.MethodName)) := jG_of 25 (by decide +kernel) (by decide +kernel)
set_option maxHeartbeats 4000000 in
set_option maxRecDepth 100000 in
theorem m_finds (l : Launch) {b : Nat} {D : va_G} {Y : Nat → ClassId} {s0 : State} (Z : jS0 b D Y s0) (mm n : Nat) (h : jH) (M0 : h mm = some (.inr (9, [.int 0, .ref (mm + 1), .int 0, .ref (mm + 2), .int 0, .ref (mm + 3), .int 0, .int 0, .ref (mm + 4), .ref (mm + 5), .ref (mm + 6), .int 0, .ref (mm + 7), .ref (mm + 8), .ref (mm + 9), .int 0, .int 0, .ref (mm + 10), .ref (mm + 11), .ref (mm + 12), .ref (mm + 13), .ref (mm + 14), .ref (mm + 15), .long 1, .int 0, .ref (mm + 16), .ref (mm + 17), .ref (mm + 18), .int 0, .long 0, .ref (mm + 19), .ref (mm + 20), .ref (mm + 21), .ref (mm + 22), .long 0]))) : jMet l D s0 y_Modl_finds c_Modl_finds 4 none 1 [.ref mm] h n 0 0 (fun r h2 n2 => r = none ∧ n = n2 ∧ h2 mm = some (.inr (9, [.int 0, .ref (mm + 1), .int 0, .ref (mm + 2), .int 0, .ref (mm + 3), .int 0, .int 0, .ref (mm + 4), .ref (mm + 5), .ref (mm + 6), .int 0, .ref (mm + 7), .ref (mm + 8), .ref (mm + 9), .int 0, .int 0, .ref (mm + 10), .ref (mm + 11), .ref (mm + 12), .ref (mm + 13), .ref (mm + 14), .ref (mm + 15), .long 1, .int 0, .ref (mm + 16), .ref (mm + 17), .ref (mm + 18), .int 0, .long 0, .ref (mm + 19), .ref (mm + 20), .ref (mm + 21), .ref (mm + 22), .long 0])) ∧ ∀ x, x ≠ mm → h2 x = h x) := by
  refine jMet_of Z (by decide) (Nat.le_of_ble_eq_true rfl) ?_
  intro p e s m below meth c
  refine j_aload_n d_Modl_finds_0 0 rfl ?_
  refine j_iconst d_Modl_finds_1 (v := 0) (by decide) ?_
  refine j_put iw_Modl t_Modl t_Modl_ok n_Modl (ci := 9) (kf := 11) rfl (by decide) g_866 rfl (t_Modl_ok 11 (by decide)) rfl rfl d_Modl_finds_2 M0 (Nat.le_of_ble_eq_true rfl) ?_
  refine j_upx (by simp only [List.set_cons_succ, List.set_cons_zero]; rfl) ?_
  refine j_aload_n d_Modl_finds_5 0 rfl ?_
  refine j_get iw_Modl (ci := 9) (kf := 4) rfl (by decide) g_859 d_Modl_finds_6 (jh_up_s _ _ _) rfl ?_
  refine j_if_ne_f (tgt := 13) d_Modl_finds_9 (by decide) (by decide) ?_
  exact j_vret rfl d_Modl_finds_12 ⟨rfl, rfl, (jh_up_s _ _ _), fun x h1 => (jh_up_n _ _ (by omega))⟩
set_option maxHeartbeats 4000000 in
set_option maxRecDepth 100000 in
theorem m_factors_loop (l : Launch) {b : Nat} {D : va_G} {Y : Nat → ClassId} {s0 : State} (Z : jS0 b D Y s0) {p : Program} {e : Env} {s : State} {m : MethodId} {below : List Frame} {meth : Method} {c : Code} {Q : State → Prop} (mm n : Nat) (hb : jH) (hx : ∀ h2 : jH, h2 mm = some (.inr (9, [.int 0, .ref (mm + 1), .int 0, .ref (mm + 2), .int 0, .ref (mm + 3), .int 0, .int 0, .ref (mm + 4), .ref (mm + 5), .ref (mm + 6), .int 0, .ref (mm + 7), .ref (mm + 8), .ref (mm + 9), .int 0, .int 0, .ref (mm + 10), .ref (mm + 11), .ref (mm + 12), .ref (mm + 13), .ref (mm + 14), .ref (mm + 15), .long 1, .int 0, .ref (mm + 16), .ref (mm + 17), .ref (mm + 18), .int 0, .long 0, .ref (mm + 19), .ref (mm + 20), .ref (mm + 21), .ref (mm + 22), .long 0])) → h2 (mm + 4) = some (.inl (Y 1, 156, .inr (.inl (fun _ => 0)))) → h2 (mm + 7) = some (.inl (Y 1, 156, .inr (.inl (fun _ => 0)))) → (∀ x, x ≠ mm + 4 → h2 x = hb x) → jW b D Y s0 p l e (jrm 4 0 0) s m [Value.ref mm].toArray below meth c y_Modl_factors.cls c_Modl_factors 2 (some .int) y_Modl_factors.name Q 44 [(1, .int 156), (0, .ref mm)] [] h2 n 0 0) :
    ∀ (j i : Nat), i + j = 156 → ∀ (h : jH), h mm = some (.inr (9, [.int 0, .ref (mm + 1), .int 0, .ref (mm + 2), .int 0, .ref (mm + 3), .int 0, .int 0, .ref (mm + 4), .ref (mm + 5), .ref (mm + 6), .int 0, .ref (mm + 7), .ref (mm + 8), .ref (mm + 9), .int 0, .int 0, .ref (mm + 10), .ref (mm + 11), .ref (mm + 12), .ref (mm + 13), .ref (mm + 14), .ref (mm + 15), .long 1, .int 0, .ref (mm + 16), .ref (mm + 17), .ref (mm + 18), .int 0, .long 0, .ref (mm + 19), .ref (mm + 20), .ref (mm + 21), .ref (mm + 22), .long 0])) → h (mm + 4) = some (.inl (Y 1, 156, .inr (.inl (fun _ => 0)))) → h (mm + 7) = some (.inl (Y 1, 156, .inr (.inl (fun _ => 0)))) → (∀ x, x ≠ mm + 4 → h x = hb x) → jW b D Y s0 p l e (jrm 4 0 0) s m [Value.ref mm].toArray below meth c y_Modl_factors.cls c_Modl_factors 2 (some .int) y_Modl_factors.name Q 19 [(1, .int (nI i)), (0, .ref mm)] [] h n 0 0 := by
  intro j
  induction j with
  | zero =>
    intro i hi h M0 H1 H2 HF
    obtain rfl : i = 156 := by omega
    refine j_iload_n d_Modl_factors_19 0 rfl ?_
    refine j_sipush d_Modl_factors_20 (v := 156) (by decide) ?_
    refine j_icmp_ge_t (tgt := 44) d_Modl_factors_23 (by decide) (by decide) ?_
    exact hx h M0 H1 H2 HF
  | succ j ih =>
    intro i hi h M0 H1 H2 HF
    have hi156 : i < 156 := by omega
    refine j_iload_n d_Modl_factors_19 0 rfl ?_
    refine j_sipush d_Modl_factors_20 (v := 156) (by decide) ?_
    refine j_icmp_ge_f (tgt := 44) d_Modl_factors_23 (by decide) (nI_ge (b := 156) hi156 (by decide)) ?_
    refine j_aload_n d_Modl_factors_26 1 rfl ?_
    refine j_get iw_Modl (ci := 9) (kf := 8) rfl (by decide) g_863 d_Modl_factors_27 M0 rfl ?_
    refine j_iload_n d_Modl_factors_30 0 rfl ?_
    refine j_aload_n d_Modl_factors_31 1 rfl ?_
    refine j_get iw_Modl (ci := 9) (kf := 12) rfl (by decide) g_867 d_Modl_factors_32 M0 rfl ?_
    refine j_iload_n d_Modl_factors_35 0 rfl ?_
    refine j_lald d_Modl_factors_36 H2 (nI_in hi156 (by omega)) ?_
    refine j_last d_Modl_factors_37 H1 (nI_in hi156 (by omega)) ?_
    refine j_iinc d_Modl_factors_38 0 rfl (v := nI (i + 1)) (nI_1 i) (Nat.le_of_ble_eq_true rfl) rfl ?_
    refine j_goto (tgt := 19) d_Modl_factors_41 (by decide) ?_
    exact ih (i + 1) (by omega) _ ((jh_up_n _ _ (by omega)).trans M0) ((jh_up_s _ _ _).trans (congrArg (fun f => some (Sum.inl (Y 1, 156, Sum.inr (Sum.inl f)))) (upd00 _))) ((jh_up_n _ _ (by omega)).trans H2) (fun x h1x => (jh_up_n _ _ (by omega)).trans (HF x h1x))
set_option maxHeartbeats 4000000 in
set_option maxRecDepth 100000 in
theorem m_factors (l : Launch) {b : Nat} {D : va_G} {Y : Nat → ClassId} {s0 : State} (Z : jS0 b D Y s0) (mm n : Nat) (h : jH) (HM : jModl Y h mm) : jMet l D s0 y_Modl_factors c_Modl_factors 2 (some .int) 4 [.ref mm] h n 0 0 (fun r h2 n2 => r = some (.int 0) ∧ n = n2 ∧ (∃ fs3, h2 mm = some (.inr (9, .int 0 :: fs3))) ∧ ∀ x, (x < mm ∨ mm + 23 ≤ x) → h2 x = h x) := by
  refine jMet_of Z (by decide) (Nat.le_of_ble_eq_true rfl) ?_
  intro p e s m below meth c
  obtain ⟨M0, M1, M2, M3, M4, M5, M6, M7, M8, M9, M18, M19, M22⟩ := HM
  refine j_aload_n d_Modl_factors_0 0 rfl ?_
  refine j_iconst d_Modl_factors_1 (v := 0) (by decide) ?_
  refine j_put iw_Modl t_Modl t_Modl_ok n_Modl (ci := 9) (kf := 0) rfl (by decide) g_855 rfl (t_Modl_ok 0 (by decide)) rfl rfl d_Modl_factors_2 M0 (Nat.le_of_ble_eq_true rfl) ?_
  refine j_upx (by simp only [List.set_cons_succ, List.set_cons_zero]; rfl) ?_
  refine j_aload_n d_Modl_factors_5 0 rfl ?_
  refine j_callV (m_finds l Z mm _ _ (jh_up_s _ _ _)) ⟨⟨Nat.le_of_ble_eq_true rfl, Nat.le_of_ble_eq_true rfl⟩, g_1016, g_1019, g_10, by decide +kernel⟩ g_1018 gp_25 (ci := 9) rfl (jh_up_s _ _ _) ⟨(by first | exact Nat.le_of_ble_eq_true rfl | (simp only [jrm]; omega)), (by first | exact Nat.le_of_ble_eq_true rfl | (simp only [jrm]; omega))⟩ (Nat.le_of_ble_eq_true rfl) d_Modl_factors_6 (fun r0 h0 n0 P0 => ?_)
  obtain ⟨rfl, rfl, O0, F0⟩ := P0
  have E0_0 := (F0 (mm + 1) (by omega)).trans ((jh_up_n _ _ (by omega)).trans M1)
  have E0_1 := (F0 (mm + 2) (by omega)).trans ((jh_up_n _ _ (by omega)).trans M2)
  have E0_2 := (F0 (mm + 3) (by omega)).trans ((jh_up_n _ _ (by omega)).trans M3)
  have E0_3 := (F0 (mm + 4) (by omega)).trans ((jh_up_n _ _ (by omega)).trans M4)
  have E0_4 := (F0 (mm + 5) (by omega)).trans ((jh_up_n _ _ (by omega)).trans M5)
  have E0_5 := (F0 (mm + 6) (by omega)).trans ((jh_up_n _ _ (by omega)).trans M6)
  have E0_6 := (F0 (mm + 7) (by omega)).trans ((jh_up_n _ _ (by omega)).trans M7)
  have E0_7 := (F0 (mm + 8) (by omega)).trans ((jh_up_n _ _ (by omega)).trans M8)
  have E0_8 := (F0 (mm + 9) (by omega)).trans ((jh_up_n _ _ (by omega)).trans M9)
  have E0_9 := (F0 (mm + 18) (by omega)).trans ((jh_up_n _ _ (by omega)).trans M18)
  have E0_10 := (F0 (mm + 19) (by omega)).trans ((jh_up_n _ _ (by omega)).trans M19)
  have E0_11 := (F0 (mm + 22) (by omega)).trans ((jh_up_n _ _ (by omega)).trans M22)
  refine j_aload_n d_Modl_factors_9 0 rfl ?_
  refine j_aload_n d_Modl_factors_10 0 rfl ?_
  refine j_get iw_Modl (ci := 9) (kf := 11) rfl (by decide) g_866 d_Modl_factors_11 O0 rfl ?_
  refine j_put iw_Modl t_Modl t_Modl_ok n_Modl (ci := 9) (kf := 7) rfl (by decide) g_862 rfl (t_Modl_ok 7 (by decide)) rfl rfl d_Modl_factors_14 O0 (Nat.le_of_ble_eq_true rfl) ?_
  refine j_upx (by simp only [List.set_cons_succ, List.set_cons_zero]; rfl) ?_
  refine j_iconst d_Modl_factors_17 (v := 0) (by decide) ?_
  refine j_istore_n d_Modl_factors_18 (Nat.le_of_ble_eq_true rfl) rfl ?_
  refine m_factors_loop l Z mm _ _ (fun h3 A3 B3 C3 G3 => ?_) 156 0 rfl _ (jh_up_s _ _ _) ((jh_up_n _ _ (by omega)).trans E0_3) ((jh_up_n _ _ (by omega)).trans E0_6) (fun x _ => rfl)
  refine j_iconst d_Modl_factors_44 (v := 0) (by decide) ?_
  refine j_istore_n d_Modl_factors_45 (Nat.le_of_ble_eq_true rfl) rfl ?_
  refine j_iload_n d_Modl_factors_46 0 rfl ?_
  refine j_aload_n d_Modl_factors_47 1 rfl ?_
  refine j_get iw_Modl (ci := 9) (kf := 11) rfl (by decide) g_866 d_Modl_factors_48 A3 rfl ?_
  refine j_icmp_ge_t (tgt := 84) d_Modl_factors_51 (by decide) (by decide) ?_
  refine j_aload_n d_Modl_factors_84 1 rfl ?_
  refine j_get iw_Modl (ci := 9) (kf := 7) rfl (by decide) g_862 d_Modl_factors_85 A3 rfl ?_
  refine j_iret rfl d_Modl_factors_88 ⟨rfl, rfl, ⟨_, A3⟩, fun x hx => ?_⟩
  exact ((G3 x (by omega)).trans ((jh_up_n _ _ (by omega)).trans ((F0 x (by omega)).trans (jh_up_n _ _ (by omega)))))
set_option maxHeartbeats 4000000 in
set_option maxRecDepth 100000 in
theorem m_ofDegree (l : Launch) {b : Nat} {D : va_G} {Y : Nat → ClassId} {s0 : State} (Z : jS0 b D Y s0) (mm n : Nat) (h : jH) (HM : jModl Y h mm) (x0 : Int32) (h1 : ¬ x0 < 1) (h2 : x0 ≤ 12) : jMet l D s0 y_Modl_ofDegree c_Modl_ofDegree 4 (some .int) 4 [.ref mm, .int x0] h n 0 0 (fun r h2 n2 => r = some (.int 0) ∧ n = n2 ∧ (∃ fs3, h2 mm = some (.inr (9, .int 0 :: fs3))) ∧ ∀ x, (x < mm ∨ mm + 23 ≤ x) → h2 x = h x) := by
  refine jMet_of Z (by decide) (Nat.le_of_ble_eq_true rfl) ?_
  intro p e s m below meth c
  obtain ⟨M0, M1, M2, M3, M4, M5, M6, M7, M8, M9, M18, M19, M22⟩ := HM
  refine j_aload_n d_Modl_ofDegree_0 0 rfl ?_
  refine j_iload_n d_Modl_ofDegree_1 1 rfl ?_
  refine j_iconst d_Modl_ofDegree_2 (v := 1) (by decide) ?_
  refine j_icmp_lt_f (tgt := 12) d_Modl_ofDegree_3 (by decide) h1 ?_
  refine j_iload_n d_Modl_ofDegree_6 1 rfl ?_
  refine j_bipush d_Modl_ofDegree_7 (v := 12) (by decide) ?_
  refine j_icmp_le_t (tgt := 16) d_Modl_ofDegree_9 (by decide) h2 ?_
  refine j_iconst d_Modl_ofDegree_16 (v := 0) (by decide) ?_
  refine j_iconst d_Modl_ofDegree_17 (v := 1) (by decide) ?_
  refine j_callV (k_fails0 l Z mm _ _ _ 1 _ M0) ⟨⟨Nat.le_of_ble_eq_true rfl, Nat.le_of_ble_eq_true rfl⟩, g_970, g_973, g_10, (by decide +kernel), (by decide +kernel), (show _ = some 2 from by decide +kernel)⟩ g_972 gp_23 (ci := 9) rfl M0 ⟨(by first | exact Nat.le_of_ble_eq_true rfl | (simp only [jrm]; omega)), (by first | exact Nat.le_of_ble_eq_true rfl | (simp only [jrm]; omega))⟩ (Nat.le_of_ble_eq_true rfl) d_Modl_ofDegree_18 (fun r15 h15 n15 P15 => ?_)
  obtain ⟨rfl, rfl, O15, F15⟩ := P15
  have E15_0 := (F15 (mm + 1) (by omega)).trans M1
  have E15_1 := (F15 (mm + 2) (by omega)).trans M2
  have E15_2 := (F15 (mm + 3) (by omega)).trans M3
  have E15_3 := (F15 (mm + 4) (by omega)).trans M4
  have E15_4 := (F15 (mm + 5) (by omega)).trans M5
  have E15_5 := (F15 (mm + 6) (by omega)).trans M6
  have E15_6 := (F15 (mm + 7) (by omega)).trans M7
  have E15_7 := (F15 (mm + 8) (by omega)).trans M8
  have E15_8 := (F15 (mm + 9) (by omega)).trans M9
  have E15_9 := (F15 (mm + 18) (by omega)).trans M18
  have E15_10 := (F15 (mm + 19) (by omega)).trans M19
  have E15_11 := (F15 (mm + 22) (by omega)).trans M22
  refine j_if_eq_t (tgt := 26) d_Modl_ofDegree_21 (by decide) (by decide) ?_
  refine j_aload_n d_Modl_ofDegree_26 0 rfl ?_
  refine j_callV (m_finds l Z mm _ _ O15) ⟨⟨Nat.le_of_ble_eq_true rfl, Nat.le_of_ble_eq_true rfl⟩, g_1016, g_1019, g_10, by decide +kernel⟩ g_1018 gp_25 (ci := 9) rfl O15 ⟨(by first | exact Nat.le_of_ble_eq_true rfl | (simp only [jrm]; omega)), (by first | exact Nat.le_of_ble_eq_true rfl | (simp only [jrm]; omega))⟩ (Nat.le_of_ble_eq_true rfl) d_Modl_ofDegree_27 (fun r950 h950 n950 P950 => ?_)
  obtain ⟨rfl, rfl, O950, F950⟩ := P950
  have E950_0 := (F950 (mm + 1) (by omega)).trans E15_0
  have E950_1 := (F950 (mm + 2) (by omega)).trans E15_1
  have E950_2 := (F950 (mm + 3) (by omega)).trans E15_2
  have E950_3 := (F950 (mm + 4) (by omega)).trans E15_3
  have E950_4 := (F950 (mm + 5) (by omega)).trans E15_4
  have E950_5 := (F950 (mm + 6) (by omega)).trans E15_5
  have E950_6 := (F950 (mm + 7) (by omega)).trans E15_6
  have E950_7 := (F950 (mm + 8) (by omega)).trans E15_7
  have E950_8 := (F950 (mm + 9) (by omega)).trans E15_8
  have E950_9 := (F950 (mm + 18) (by omega)).trans E15_9
  have E950_10 := (F950 (mm + 19) (by omega)).trans E15_10
  have E950_11 := (F950 (mm + 22) (by omega)).trans E15_11
  refine j_iconst d_Modl_ofDegree_30 (v := 0) (by decide) ?_
  refine j_istore_n d_Modl_ofDegree_31 (Nat.le_of_ble_eq_true rfl) rfl ?_
  refine j_iconst d_Modl_ofDegree_32 (v := 0) (by decide) ?_
  refine j_istore_n d_Modl_ofDegree_33 (Nat.le_of_ble_eq_true rfl) rfl ?_
  refine j_iload_n d_Modl_ofDegree_34 0 rfl ?_
  refine j_aload_n d_Modl_ofDegree_35 2 rfl ?_
  refine j_get iw_Modl (ci := 9) (kf := 11) rfl (by decide) g_866 d_Modl_ofDegree_36 O950 rfl ?_
  refine j_icmp_ge_t (tgt := 71) d_Modl_ofDegree_39 (by decide) (by decide) ?_
  refine j_iload_n d_Modl_ofDegree_71 1 rfl ?_
  refine j_iret rfl d_Modl_ofDegree_72 ⟨rfl, rfl, ⟨_, O950⟩, fun x hx => ?_⟩
  exact ((F950 x (by omega)).trans (F15 x (by omega)))
set_option maxHeartbeats 4000000 in
set_option maxRecDepth 100000 in
theorem n_ofDegree (l : Launch) {b : Nat} {D : va_G} {Y : Nat → ClassId} {s0 : State} (Z : jS0 b D Y s0) (mm n : Nat) (h : jH) (HM : jModl Y h mm) (x0 : Int32) (h1 : x0 < 1 ∨ ¬ x0 ≤ 12) : jMet l D s0 y_Modl_ofDegree c_Modl_ofDegree 4 (some .int) 4 [.ref mm, .int x0] h n 0 0 (fun r h2 n2 => r = some (.int 0) ∧ n = n2 ∧ (∃ fs3, h2 mm = some (.inr (9, .int 1 :: fs3))) ∧ ∀ x, (x < mm ∨ mm + 23 ≤ x) → h2 x = h x) := by
  refine jMet_of Z (by decide) (Nat.le_of_ble_eq_true rfl) ?_
  intro p e s m below meth c
  obtain ⟨M0, M1, M2, M3, M4, M5, M6, M7, M8, M9, M18, M19, M22⟩ := HM
  by_cases h0 : x0 < 1
  · refine j_aload_n d_Modl_ofDegree_0 0 rfl ?_
    refine j_iload_n d_Modl_ofDegree_1 1 rfl ?_
    refine j_iconst d_Modl_ofDegree_2 (v := 1) (by decide) ?_
    refine j_icmp_lt_t (tgt := 12) d_Modl_ofDegree_3 (by decide) h0 ?_
    refine j_iconst d_Modl_ofDegree_12 (v := 1) (by decide) ?_
    refine j_goto (tgt := 17) d_Modl_ofDegree_13 (by decide) ?_
    refine j_iconst d_Modl_ofDegree_17 (v := 1) (by decide) ?_
    refine j_callV (k_fails1 l Z mm _ _ _ 1 _ M0) ⟨⟨Nat.le_of_ble_eq_true rfl, Nat.le_of_ble_eq_true rfl⟩, g_970, g_973, g_10, (by decide +kernel), (by decide +kernel), (show _ = some 2 from by decide +kernel)⟩ g_972 gp_23 (ci := 9) rfl M0 ⟨(by first | exact Nat.le_of_ble_eq_true rfl | (simp only [jrm]; omega)), (by first | exact Nat.le_of_ble_eq_true rfl | (simp only [jrm]; omega))⟩ (Nat.le_of_ble_eq_true rfl) d_Modl_ofDegree_18 (fun r16 h16 n16 P16 => ?_)
    obtain ⟨rfl, rfl, O16, F16⟩ := P16
    have E16_0 := (F16 (mm + 1) (by omega)).trans M1
    have E16_1 := (F16 (mm + 2) (by omega)).trans M2
    have E16_2 := (F16 (mm + 3) (by omega)).trans M3
    have E16_3 := (F16 (mm + 4) (by omega)).trans M4
    have E16_4 := (F16 (mm + 5) (by omega)).trans M5
    have E16_5 := (F16 (mm + 6) (by omega)).trans M6
    have E16_6 := (F16 (mm + 7) (by omega)).trans M7
    have E16_7 := (F16 (mm + 8) (by omega)).trans M8
    have E16_8 := (F16 (mm + 9) (by omega)).trans M9
    have E16_9 := (F16 (mm + 18) (by omega)).trans M18
    have E16_10 := (F16 (mm + 19) (by omega)).trans M19
    have E16_11 := (F16 (mm + 22) (by omega)).trans M22
    refine j_if_eq_f (tgt := 26) d_Modl_ofDegree_21 (by decide) (by decide) ?_
    refine j_iconst d_Modl_ofDegree_24 (v := 0) (by decide) ?_
    refine j_iret rfl d_Modl_ofDegree_25 ⟨rfl, rfl, ⟨_, O16⟩, fun x hx => ?_⟩
    exact (F16 x (by omega))
  · refine j_aload_n d_Modl_ofDegree_0 0 rfl ?_
    refine j_iload_n d_Modl_ofDegree_1 1 rfl ?_
    refine j_iconst d_Modl_ofDegree_2 (v := 1) (by decide) ?_
    refine j_icmp_lt_f (tgt := 12) d_Modl_ofDegree_3 (by decide) h0 ?_
    refine j_iload_n d_Modl_ofDegree_6 1 rfl ?_
    refine j_bipush d_Modl_ofDegree_7 (v := 12) (by decide) ?_
    refine j_icmp_le_f (tgt := 16) d_Modl_ofDegree_9 (by decide) (h1.resolve_left h0) ?_
    refine j_iconst d_Modl_ofDegree_12 (v := 1) (by decide) ?_
    refine j_goto (tgt := 17) d_Modl_ofDegree_13 (by decide) ?_
    refine j_iconst d_Modl_ofDegree_17 (v := 1) (by decide) ?_
    refine j_callV (k_fails1 l Z mm _ _ _ 1 _ M0) ⟨⟨Nat.le_of_ble_eq_true rfl, Nat.le_of_ble_eq_true rfl⟩, g_970, g_973, g_10, (by decide +kernel), (by decide +kernel), (show _ = some 2 from by decide +kernel)⟩ g_972 gp_23 (ci := 9) rfl M0 ⟨(by first | exact Nat.le_of_ble_eq_true rfl | (simp only [jrm]; omega)), (by first | exact Nat.le_of_ble_eq_true rfl | (simp only [jrm]; omega))⟩ (Nat.le_of_ble_eq_true rfl) d_Modl_ofDegree_18 (fun r17 h17 n17 P17 => ?_)
    obtain ⟨rfl, rfl, O17, F17⟩ := P17
    have E17_0 := (F17 (mm + 1) (by omega)).trans M1
    have E17_1 := (F17 (mm + 2) (by omega)).trans M2
    have E17_2 := (F17 (mm + 3) (by omega)).trans M3
    have E17_3 := (F17 (mm + 4) (by omega)).trans M4
    have E17_4 := (F17 (mm + 5) (by omega)).trans M5
    have E17_5 := (F17 (mm + 6) (by omega)).trans M6
    have E17_6 := (F17 (mm + 7) (by omega)).trans M7
    have E17_7 := (F17 (mm + 8) (by omega)).trans M8
    have E17_8 := (F17 (mm + 9) (by omega)).trans M9
    have E17_9 := (F17 (mm + 18) (by omega)).trans M18
    have E17_10 := (F17 (mm + 19) (by omega)).trans M19
    have E17_11 := (F17 (mm + 22) (by omega)).trans M22
    refine j_if_eq_f (tgt := 26) d_Modl_ofDegree_21 (by decide) (by decide) ?_
    refine j_iconst d_Modl_ofDegree_24 (v := 0) (by decide) ?_
    refine j_iret rfl d_Modl_ofDegree_25 ⟨rfl, rfl, ⟨_, O17⟩, fun x hx => ?_⟩
    exact (F17 x (by omega))
def jr2 (x y : Int64) : Int64 := jr1 (jr1 x y + y) y
set_option maxHeartbeats 4000000 in
set_option maxRecDepth 100000 in
theorem m_value (l : Launch) {b : Nat} {D : va_G} {Y : Nat → ClassId} {s0 : State} (Z : jS0 b D Y s0) (mm n : Nat) (h : jH) (HM : jModl Y h mm) (x0 : Int64) (m0 : Int32) (h1 : 1 ≤ m0) (hm : ¬ m0.toInt64 = 0) : jMet l D s0 y_Modl_value c_Modl_value 9 (some .long) 4 [.ref mm, .long x0, .int m0] h n 0 0 (fun r h2 n2 => r = some (.long (jr2 (0 * jr2 x0 m0.toInt64 + 1) m0.toInt64)) ∧ n = n2 ∧ (∃ fs3, h2 mm = some (.inr (9, .int 0 :: fs3))) ∧ ∀ x, (x < mm ∨ mm + 23 ≤ x) → h2 x = h x) := by
  refine jMet_of Z (by decide) (Nat.le_of_ble_eq_true rfl) ?_
  intro p e s m below meth c
  obtain ⟨M0, M1, M2, M3, M4, M5, M6, M7, M8, M9, M18, M19, M22⟩ := HM
  refine j_aload_n d_Modl_value_0 0 rfl ?_
  refine j_iload_n d_Modl_value_1 2 rfl ?_
  refine j_iconst d_Modl_value_2 (v := 1) (by decide) ?_
  refine j_icmp_ge_t (tgt := 10) d_Modl_value_3 (by decide) h1 ?_
  refine j_iconst d_Modl_value_10 (v := 0) (by decide) ?_
  refine j_iconst d_Modl_value_11 (v := 1) (by decide) ?_
  refine j_callV (k_fails0 l Z mm _ _ _ 1 _ M0) ⟨⟨Nat.le_of_ble_eq_true rfl, Nat.le_of_ble_eq_true rfl⟩, g_970, g_973, g_10, (by decide +kernel), (by decide +kernel), (show _ = some 2 from by decide +kernel)⟩ g_972 gp_23 (ci := 9) rfl M0 ⟨(by first | exact Nat.le_of_ble_eq_true rfl | (simp only [jrm]; omega)), (by first | exact Nat.le_of_ble_eq_true rfl | (simp only [jrm]; omega))⟩ (Nat.le_of_ble_eq_true rfl) d_Modl_value_12 (fun r18 h18 n18 P18 => ?_)
  obtain ⟨rfl, rfl, O18, F18⟩ := P18
  have E18_0 := (F18 (mm + 1) (by omega)).trans M1
  have E18_1 := (F18 (mm + 2) (by omega)).trans M2
  have E18_2 := (F18 (mm + 3) (by omega)).trans M3
  have E18_3 := (F18 (mm + 4) (by omega)).trans M4
  have E18_4 := (F18 (mm + 5) (by omega)).trans M5
  have E18_5 := (F18 (mm + 6) (by omega)).trans M6
  have E18_6 := (F18 (mm + 7) (by omega)).trans M7
  have E18_7 := (F18 (mm + 8) (by omega)).trans M8
  have E18_8 := (F18 (mm + 9) (by omega)).trans M9
  have E18_9 := (F18 (mm + 18) (by omega)).trans M18
  have E18_10 := (F18 (mm + 19) (by omega)).trans M19
  have E18_11 := (F18 (mm + 22) (by omega)).trans M22
  refine j_if_eq_t (tgt := 20) d_Modl_value_15 (by decide) (by decide) ?_
  refine j_lload_n d_Modl_value_20 1 rfl ?_
  refine j_iload_n d_Modl_value_21 2 rfl ?_
  refine j_i2l d_Modl_value_22 rfl ?_
  refine j_lrem d_Modl_value_23 hm ?_
  refine j_iload_n d_Modl_value_24 2 rfl ?_
  refine j_i2l d_Modl_value_25 rfl ?_
  refine j_ladd d_Modl_value_26 ?_
  refine j_iload_n d_Modl_value_27 2 rfl ?_
  refine j_i2l d_Modl_value_28 rfl ?_
  refine j_lrem d_Modl_value_29 hm ?_
  refine j_lstore d_Modl_value_30 (Nat.le_of_ble_eq_true rfl) rfl ?_
  refine j_lconst d_Modl_value_32 (v := 0) (by decide) ?_
  refine j_lstore d_Modl_value_33 (Nat.le_of_ble_eq_true rfl) rfl ?_
  refine j_aload_n d_Modl_value_35 2 rfl ?_
  refine j_get iw_Modl (ci := 9) (kf := 4) rfl (by decide) g_859 d_Modl_value_36 O18 rfl ?_
  refine j_istore d_Modl_value_39 (Nat.le_of_ble_eq_true rfl) rfl ?_
  refine j_iload d_Modl_value_41 0 rfl ?_
  refine j_if_lt_f (tgt := 76) d_Modl_value_43 (by decide) (by decide) ?_
  refine j_lload d_Modl_value_46 1 rfl ?_
  refine j_lload d_Modl_value_48 2 rfl ?_
  refine j_lmul d_Modl_value_50 ?_
  refine j_aload_n d_Modl_value_51 3 rfl ?_
  refine j_get iw_Modl (ci := 9) (kf := 3) rfl (by decide) g_858 d_Modl_value_52 O18 rfl ?_
  refine j_iload d_Modl_value_55 0 rfl ?_
  refine j_lald d_Modl_value_57 E18_1 (by unfold vp_in; decide) ?_
  refine j_ladd d_Modl_value_58 ?_
  refine j_iload_n d_Modl_value_59 5 rfl ?_
  refine j_i2l d_Modl_value_60 rfl ?_
  refine j_lrem d_Modl_value_61 hm ?_
  refine j_iload_n d_Modl_value_62 5 rfl ?_
  refine j_i2l d_Modl_value_63 rfl ?_
  refine j_ladd d_Modl_value_64 ?_
  refine j_iload_n d_Modl_value_65 5 rfl ?_
  refine j_i2l d_Modl_value_66 rfl ?_
  refine j_lrem d_Modl_value_67 hm ?_
  refine j_lstore d_Modl_value_68 (Nat.le_of_ble_eq_true rfl) rfl ?_
  refine j_iinc d_Modl_value_70 1 rfl rfl (Nat.le_of_ble_eq_true rfl) rfl ?_
  refine j_goto (tgt := 41) d_Modl_value_73 (by decide) ?_
  refine j_iload d_Modl_value_41 0 rfl ?_
  refine j_if_lt_t (tgt := 76) d_Modl_value_43 (by decide) (by decide) ?_
  refine j_lload d_Modl_value_76 1 rfl ?_
  refine j_lret rfl d_Modl_value_78 ⟨rfl, rfl, ⟨_, O18⟩, fun x hx => ?_⟩
  exact (F18 x (by omega))
set_option maxHeartbeats 4000000 in
set_option maxRecDepth 100000 in
theorem n_value (l : Launch) {b : Nat} {D : va_G} {Y : Nat → ClassId} {s0 : State} (Z : jS0 b D Y s0) (mm n : Nat) (h : jH) (HM : jModl Y h mm) (x0 : Int64) (m0 : Int32) (h1 : ¬ 1 ≤ m0) : jMet l D s0 y_Modl_value c_Modl_value 9 (some .long) 4 [.ref mm, .long x0, .int m0] h n 0 0 (fun r h2 n2 => r = some (.long 0) ∧ n = n2 ∧ (∃ fs3, h2 mm = some (.inr (9, .int 1 :: fs3))) ∧ ∀ x, (x < mm ∨ mm + 23 ≤ x) → h2 x = h x) := by
  refine jMet_of Z (by decide) (Nat.le_of_ble_eq_true rfl) ?_
  intro p e s m below meth c
  obtain ⟨M0, M1, M2, M3, M4, M5, M6, M7, M8, M9, M18, M19, M22⟩ := HM
  refine j_aload_n d_Modl_value_0 0 rfl ?_
  refine j_iload_n d_Modl_value_1 2 rfl ?_
  refine j_iconst d_Modl_value_2 (v := 1) (by decide) ?_
  refine j_icmp_ge_f (tgt := 10) d_Modl_value_3 (by decide) h1 ?_
  refine j_iconst d_Modl_value_6 (v := 1) (by decide) ?_
  refine j_goto (tgt := 11) d_Modl_value_7 (by decide) ?_
  refine j_iconst d_Modl_value_11 (v := 1) (by decide) ?_
  refine j_callV (k_fails1 l Z mm _ _ _ 1 _ M0) ⟨⟨Nat.le_of_ble_eq_true rfl, Nat.le_of_ble_eq_true rfl⟩, g_970, g_973, g_10, (by decide +kernel), (by decide +kernel), (show _ = some 2 from by decide +kernel)⟩ g_972 gp_23 (ci := 9) rfl M0 ⟨(by first | exact Nat.le_of_ble_eq_true rfl | (simp only [jrm]; omega)), (by first | exact Nat.le_of_ble_eq_true rfl | (simp only [jrm]; omega))⟩ (Nat.le_of_ble_eq_true rfl) d_Modl_value_12 (fun r19 h19 n19 P19 => ?_)
  obtain ⟨rfl, rfl, O19, F19⟩ := P19
  have E19_0 := (F19 (mm + 1) (by omega)).trans M1
  have E19_1 := (F19 (mm + 2) (by omega)).trans M2
  have E19_2 := (F19 (mm + 3) (by omega)).trans M3
  have E19_3 := (F19 (mm + 4) (by omega)).trans M4
  have E19_4 := (F19 (mm + 5) (by omega)).trans M5
  have E19_5 := (F19 (mm + 6) (by omega)).trans M6
  have E19_6 := (F19 (mm + 7) (by omega)).trans M7
  have E19_7 := (F19 (mm + 8) (by omega)).trans M8
  have E19_8 := (F19 (mm + 9) (by omega)).trans M9
  have E19_9 := (F19 (mm + 18) (by omega)).trans M18
  have E19_10 := (F19 (mm + 19) (by omega)).trans M19
  have E19_11 := (F19 (mm + 22) (by omega)).trans M22
  refine j_if_eq_f (tgt := 20) d_Modl_value_15 (by decide) (by decide) ?_
  refine j_lconst d_Modl_value_18 (v := 0) (by decide) ?_
  refine j_lret rfl d_Modl_value_19 ⟨rfl, rfl, ⟨_, O19⟩, fun x hx => ?_⟩
  exact (F19 x (by omega))
