abbrev c_Poly_copyFrom : ByteArray := prog_7_method_2_code
abbrev y_Poly_copyFrom : MethodName := ⟨"FactorDesk$Poly", "copyFrom", "(LFactorDesk$Poly;)V"⟩
theorem d_Poly_copyFrom_0 : decode c_Poly_copyFrom 0 = .ok (.aload_n 1, 1) := by decide +kernel
theorem d_Poly_copyFrom_1 : decode c_Poly_copyFrom 1 = .ok (.getfield 9, 3) := by decide +kernel
theorem d_Poly_copyFrom_4 : decode c_Poly_copyFrom 4 = .ok (.iconst 0, 1) := by decide +kernel
theorem d_Poly_copyFrom_5 : decode c_Poly_copyFrom 5 = .ok (.aload_n 0, 1) := by decide +kernel
theorem d_Poly_copyFrom_6 : decode c_Poly_copyFrom 6 = .ok (.getfield 9, 3) := by decide +kernel
theorem d_Poly_copyFrom_9 : decode c_Poly_copyFrom 9 = .ok (.iconst 0, 1) := by decide +kernel
theorem d_Poly_copyFrom_10 : decode c_Poly_copyFrom 10 = .ok (.bipush 13, 2) := by decide +kernel
theorem d_Poly_copyFrom_12 : decode c_Poly_copyFrom 12 = .ok (.invokestatic 19, 3) := by decide +kernel
theorem d_Poly_copyFrom_15 : decode c_Poly_copyFrom 15 = .ok (.aload_n 0, 1) := by decide +kernel
theorem d_Poly_copyFrom_16 : decode c_Poly_copyFrom 16 = .ok (.aload_n 1, 1) := by decide +kernel
theorem d_Poly_copyFrom_17 : decode c_Poly_copyFrom 17 = .ok (.getfield 15, 3) := by decide +kernel
theorem d_Poly_copyFrom_20 : decode c_Poly_copyFrom 20 = .ok (.putfield 15, 3) := by decide +kernel
theorem d_Poly_copyFrom_23 : decode c_Poly_copyFrom 23 = .ok (.return_, 1) := by decide +kernel
abbrev c_Poly_takeOutX : ByteArray := prog_7_method_9_code
abbrev y_Poly_takeOutX : MethodName := ⟨"FactorDesk$Poly", "takeOutX", "()I"⟩
theorem d_Poly_takeOutX_0 : decode c_Poly_takeOutX 0 = .ok (.iconst 0, 1) := by decide +kernel
theorem d_Poly_takeOutX_1 : decode c_Poly_takeOutX 1 = .ok (.istore_n 1, 1) := by decide +kernel
theorem d_Poly_takeOutX_2 : decode c_Poly_takeOutX 2 = .ok (.iload_n 1, 1) := by decide +kernel
theorem d_Poly_takeOutX_3 : decode c_Poly_takeOutX 3 = .ok (.aload_n 0, 1) := by decide +kernel
theorem d_Poly_takeOutX_4 : decode c_Poly_takeOutX 4 = .ok (.getfield 15, 3) := by decide +kernel
theorem d_Poly_takeOutX_7 : decode c_Poly_takeOutX 7 = .ok (.if_icmp .ge 20, 3) := by decide +kernel
theorem d_Poly_takeOutX_10 : decode c_Poly_takeOutX 10 = .ok (.aload_n 0, 1) := by decide +kernel
theorem d_Poly_takeOutX_11 : decode c_Poly_takeOutX 11 = .ok (.getfield 9, 3) := by decide +kernel
theorem d_Poly_takeOutX_14 : decode c_Poly_takeOutX 14 = .ok (.iload_n 1, 1) := by decide +kernel
theorem d_Poly_takeOutX_15 : decode c_Poly_takeOutX 15 = .ok (.laload, 1) := by decide +kernel
theorem d_Poly_takeOutX_16 : decode c_Poly_takeOutX 16 = .ok (.lconst 0, 1) := by decide +kernel
theorem d_Poly_takeOutX_17 : decode c_Poly_takeOutX 17 = .ok (.lcmp, 1) := by decide +kernel
theorem d_Poly_takeOutX_18 : decode c_Poly_takeOutX 18 = .ok (.ifCond .ne 9, 3) := by decide +kernel
theorem d_Poly_takeOutX_21 : decode c_Poly_takeOutX 21 = .ok (.iinc 1 1, 3) := by decide +kernel
theorem d_Poly_takeOutX_24 : decode c_Poly_takeOutX 24 = .ok (.goto (-22), 3) := by decide +kernel
theorem d_Poly_takeOutX_27 : decode c_Poly_takeOutX 27 = .ok (.iconst 0, 1) := by decide +kernel
theorem d_Poly_takeOutX_28 : decode c_Poly_takeOutX 28 = .ok (.istore_n 2, 1) := by decide +kernel
theorem d_Poly_takeOutX_29 : decode c_Poly_takeOutX 29 = .ok (.iload_n 2, 1) := by decide +kernel
theorem d_Poly_takeOutX_30 : decode c_Poly_takeOutX 30 = .ok (.bipush 12, 2) := by decide +kernel
theorem d_Poly_takeOutX_32 : decode c_Poly_takeOutX 32 = .ok (.if_icmp .gt 35, 3) := by decide +kernel
theorem d_Poly_takeOutX_35 : decode c_Poly_takeOutX 35 = .ok (.aload_n 0, 1) := by decide +kernel
theorem d_Poly_takeOutX_36 : decode c_Poly_takeOutX 36 = .ok (.getfield 9, 3) := by decide +kernel
theorem d_Poly_takeOutX_39 : decode c_Poly_takeOutX 39 = .ok (.iload_n 2, 1) := by decide +kernel
theorem d_Poly_takeOutX_40 : decode c_Poly_takeOutX 40 = .ok (.iload_n 2, 1) := by decide +kernel
theorem d_Poly_takeOutX_41 : decode c_Poly_takeOutX 41 = .ok (.iload_n 1, 1) := by decide +kernel
theorem d_Poly_takeOutX_42 : decode c_Poly_takeOutX 42 = .ok (.iadd, 1) := by decide +kernel
theorem d_Poly_takeOutX_43 : decode c_Poly_takeOutX 43 = .ok (.bipush 12, 2) := by decide +kernel
theorem d_Poly_takeOutX_45 : decode c_Poly_takeOutX 45 = .ok (.if_icmp .gt 14, 3) := by decide +kernel
theorem d_Poly_takeOutX_48 : decode c_Poly_takeOutX 48 = .ok (.aload_n 0, 1) := by decide +kernel
theorem d_Poly_takeOutX_49 : decode c_Poly_takeOutX 49 = .ok (.getfield 9, 3) := by decide +kernel
theorem d_Poly_takeOutX_52 : decode c_Poly_takeOutX 52 = .ok (.iload_n 2, 1) := by decide +kernel
theorem d_Poly_takeOutX_53 : decode c_Poly_takeOutX 53 = .ok (.iload_n 1, 1) := by decide +kernel
theorem d_Poly_takeOutX_54 : decode c_Poly_takeOutX 54 = .ok (.iadd, 1) := by decide +kernel
theorem d_Poly_takeOutX_55 : decode c_Poly_takeOutX 55 = .ok (.laload, 1) := by decide +kernel
theorem d_Poly_takeOutX_56 : decode c_Poly_takeOutX 56 = .ok (.goto 4, 3) := by decide +kernel
theorem d_Poly_takeOutX_59 : decode c_Poly_takeOutX 59 = .ok (.lconst 0, 1) := by decide +kernel
theorem d_Poly_takeOutX_60 : decode c_Poly_takeOutX 60 = .ok (.lastore, 1) := by decide +kernel
theorem d_Poly_takeOutX_61 : decode c_Poly_takeOutX 61 = .ok (.iinc 2 1, 3) := by decide +kernel
theorem d_Poly_takeOutX_64 : decode c_Poly_takeOutX 64 = .ok (.goto (-35), 3) := by decide +kernel
theorem d_Poly_takeOutX_67 : decode c_Poly_takeOutX 67 = .ok (.aload_n 0, 1) := by decide +kernel
theorem d_Poly_takeOutX_68 : decode c_Poly_takeOutX 68 = .ok (.dup, 1) := by decide +kernel
theorem d_Poly_takeOutX_69 : decode c_Poly_takeOutX 69 = .ok (.getfield 15, 3) := by decide +kernel
theorem d_Poly_takeOutX_72 : decode c_Poly_takeOutX 72 = .ok (.iload_n 1, 1) := by decide +kernel
theorem d_Poly_takeOutX_73 : decode c_Poly_takeOutX 73 = .ok (.isub, 1) := by decide +kernel
theorem d_Poly_takeOutX_74 : decode c_Poly_takeOutX 74 = .ok (.putfield 15, 3) := by decide +kernel
theorem d_Poly_takeOutX_77 : decode c_Poly_takeOutX 77 = .ok (.iload_n 1, 1) := by decide +kernel
theorem d_Poly_takeOutX_78 : decode c_Poly_takeOutX 78 = .ok (.ireturn, 1) := by decide +kernel
abbrev c_Splt_split : ByteArray := prog_9_method_3_code
abbrev y_Splt_split : MethodName := ⟨"FactorDesk$Splitter", "split", "(LFactorDesk$Poly;)V"⟩
theorem d_Splt_split_0 : decode c_Splt_split 0 = .ok (.aload_n 0, 1) := by decide +kernel
theorem d_Splt_split_1 : decode c_Splt_split 1 = .ok (.getfield 30, 3) := by decide +kernel
theorem d_Splt_split_4 : decode c_Splt_split 4 = .ok (.ifCond .eq 4, 3) := by decide +kernel
theorem d_Splt_split_7 : decode c_Splt_split 7 = .ok (.return_, 1) := by decide +kernel
theorem d_Splt_split_8 : decode c_Splt_split 8 = .ok (.aload_n 0, 1) := by decide +kernel
theorem d_Splt_split_9 : decode c_Splt_split 9 = .ok (.iconst 1, 1) := by decide +kernel
theorem d_Splt_split_10 : decode c_Splt_split 10 = .ok (.putfield 30, 3) := by decide +kernel
theorem d_Splt_split_13 : decode c_Splt_split 13 = .ok (.aload_n 0, 1) := by decide +kernel
theorem d_Splt_split_14 : decode c_Splt_split 14 = .ok (.getfield 12, 3) := by decide +kernel
theorem d_Splt_split_17 : decode c_Splt_split 17 = .ok (.iconst 0, 1) := by decide +kernel
theorem d_Splt_split_18 : decode c_Splt_split 18 = .ok (.putfield 61, 3) := by decide +kernel
theorem d_Splt_split_21 : decode c_Splt_split 21 = .ok (.aload_n 0, 1) := by decide +kernel
theorem d_Splt_split_22 : decode c_Splt_split 22 = .ok (.getfield 51, 3) := by decide +kernel
theorem d_Splt_split_25 : decode c_Splt_split 25 = .ok (.aload_n 1, 1) := by decide +kernel
theorem d_Splt_split_26 : decode c_Splt_split 26 = .ok (.invokevirtual 65, 3) := by decide +kernel
theorem d_Splt_split_29 : decode c_Splt_split 29 = .ok (.aload_n 0, 1) := by decide +kernel
theorem d_Splt_split_30 : decode c_Splt_split 30 = .ok (.getfield 51, 3) := by decide +kernel
theorem d_Splt_split_33 : decode c_Splt_split 33 = .ok (.invokevirtual 69, 3) := by decide +kernel
theorem d_Splt_split_36 : decode c_Splt_split 36 = .ok (.aload_n 0, 1) := by decide +kernel
theorem d_Splt_split_37 : decode c_Splt_split 37 = .ok (.getfield 51, 3) := by decide +kernel
theorem d_Splt_split_40 : decode c_Splt_split 40 = .ok (.invokevirtual 72, 3) := by decide +kernel
theorem d_Splt_split_43 : decode c_Splt_split 43 = .ok (.istore_n 2, 1) := by decide +kernel
theorem d_Splt_split_44 : decode c_Splt_split 44 = .ok (.aload_n 0, 1) := by decide +kernel
theorem d_Splt_split_45 : decode c_Splt_split 45 = .ok (.getfield 51, 3) := by decide +kernel
theorem d_Splt_split_48 : decode c_Splt_split 48 = .ok (.getfield 76, 3) := by decide +kernel
theorem d_Splt_split_51 : decode c_Splt_split 51 = .ok (.ifCond .le 104, 3) := by decide +kernel
theorem d_Splt_split_54 : decode c_Splt_split 54 = .ok (.aload_n 0, 1) := by decide +kernel
theorem d_Splt_split_55 : decode c_Splt_split 55 = .ok (.getfield 58, 3) := by decide +kernel
theorem d_Splt_split_58 : decode c_Splt_split 58 = .ok (.aload_n 0, 1) := by decide +kernel
theorem d_Splt_split_59 : decode c_Splt_split 59 = .ok (.getfield 51, 3) := by decide +kernel
theorem d_Splt_split_62 : decode c_Splt_split 62 = .ok (.invokevirtual 79, 3) := by decide +kernel
theorem d_Splt_split_65 : decode c_Splt_split 65 = .ok (.aload_n 0, 1) := by decide +kernel
theorem d_Splt_split_66 : decode c_Splt_split 66 = .ok (.getfield 21, 3) := by decide +kernel
theorem d_Splt_split_69 : decode c_Splt_split 69 = .ok (.aload_n 0, 1) := by decide +kernel
theorem d_Splt_split_70 : decode c_Splt_split 70 = .ok (.getfield 51, 3) := by decide +kernel
theorem d_Splt_split_73 : decode c_Splt_split 73 = .ok (.aload_n 0, 1) := by decide +kernel
theorem d_Splt_split_74 : decode c_Splt_split 74 = .ok (.getfield 58, 3) := by decide +kernel
theorem d_Splt_split_77 : decode c_Splt_split 77 = .ok (.invokevirtual 82, 3) := by decide +kernel
theorem d_Splt_split_80 : decode c_Splt_split 80 = .ok (.aload_n 0, 1) := by decide +kernel
theorem d_Splt_split_81 : decode c_Splt_split 81 = .ok (.invokevirtual 86, 3) := by decide +kernel
theorem d_Splt_split_84 : decode c_Splt_split 84 = .ok (.aload_n 0, 1) := by decide +kernel
theorem d_Splt_split_85 : decode c_Splt_split 85 = .ok (.getfield 55, 3) := by decide +kernel
theorem d_Splt_split_88 : decode c_Splt_split 88 = .ok (.getfield 76, 3) := by decide +kernel
theorem d_Splt_split_91 : decode c_Splt_split 91 = .ok (.iconst 1, 1) := by decide +kernel
theorem d_Splt_split_92 : decode c_Splt_split 92 = .ok (.if_icmp .le 47, 3) := by decide +kernel
theorem d_Splt_split_95 : decode c_Splt_split 95 = .ok (.aload_n 0, 1) := by decide +kernel
theorem d_Splt_split_96 : decode c_Splt_split 96 = .ok (.getfield 45, 3) := by decide +kernel
theorem d_Splt_split_99 : decode c_Splt_split 99 = .ok (.aload_n 0, 1) := by decide +kernel
theorem d_Splt_split_100 : decode c_Splt_split 100 = .ok (.getfield 55, 3) := by decide +kernel
theorem d_Splt_split_103 : decode c_Splt_split 103 = .ok (.invokevirtual 89, 3) := by decide +kernel
theorem d_Splt_split_106 : decode c_Splt_split 106 = .ok (.ifCond .eq 33, 3) := by decide +kernel
theorem d_Splt_split_109 : decode c_Splt_split 109 = .ok (.aload_n 0, 1) := by decide +kernel
theorem d_Splt_split_110 : decode c_Splt_split 110 = .ok (.getfield 45, 3) := by decide +kernel
theorem d_Splt_split_113 : decode c_Splt_split 113 = .ok (.invokevirtual 95, 3) := by decide +kernel
theorem d_Splt_split_116 : decode c_Splt_split 116 = .ok (.aload_n 0, 1) := by decide +kernel
theorem d_Splt_split_117 : decode c_Splt_split 117 = .ok (.getfield 37, 3) := by decide +kernel
theorem d_Splt_split_120 : decode c_Splt_split 120 = .ok (.aload_n 0, 1) := by decide +kernel
theorem d_Splt_split_121 : decode c_Splt_split 121 = .ok (.getfield 55, 3) := by decide +kernel
theorem d_Splt_split_124 : decode c_Splt_split 124 = .ok (.ldc2_w 98, 3) := by decide +kernel
theorem d_Splt_split_127 : decode c_Splt_split 127 = .ok (.aload_n 0, 1) := by decide +kernel
theorem d_Splt_split_128 : decode c_Splt_split 128 = .ok (.invokevirtual 100, 3) := by decide +kernel
theorem d_Splt_split_131 : decode c_Splt_split 131 = .ok (.lmul, 1) := by decide +kernel
theorem d_Splt_split_132 : decode c_Splt_split 132 = .ok (.invokevirtual 104, 3) := by decide +kernel
theorem d_Splt_split_135 : decode c_Splt_split 135 = .ok (.aload_n 0, 1) := by decide +kernel
theorem d_Splt_split_136 : decode c_Splt_split 136 = .ok (.invokevirtual 108, 3) := by decide +kernel
theorem d_Splt_split_139 : decode c_Splt_split 139 = .ok (.aload_n 0, 1) := by decide +kernel
theorem d_Splt_split_140 : decode c_Splt_split 140 = .ok (.getfield 12, 3) := by decide +kernel
theorem d_Splt_split_143 : decode c_Splt_split 143 = .ok (.aload_n 0, 1) := by decide +kernel
theorem d_Splt_split_144 : decode c_Splt_split 144 = .ok (.getfield 55, 3) := by decide +kernel
theorem d_Splt_split_147 : decode c_Splt_split 147 = .ok (.iconst 1, 1) := by decide +kernel
theorem d_Splt_split_148 : decode c_Splt_split 148 = .ok (.invokevirtual 111, 3) := by decide +kernel
theorem d_Splt_split_151 : decode c_Splt_split 151 = .ok (.aload_n 0, 1) := by decide +kernel
theorem d_Splt_split_152 : decode c_Splt_split 152 = .ok (.invokevirtual 115, 3) := by decide +kernel
theorem d_Splt_split_155 : decode c_Splt_split 155 = .ok (.iload_n 2, 1) := by decide +kernel
theorem d_Splt_split_156 : decode c_Splt_split 156 = .ok (.ifCond .le 41, 3) := by decide +kernel
theorem d_Splt_split_159 : decode c_Splt_split 159 = .ok (.aload_n 0, 1) := by decide +kernel
theorem d_Splt_split_160 : decode c_Splt_split 160 = .ok (.getfield 58, 3) := by decide +kernel
theorem d_Splt_split_163 : decode c_Splt_split 163 = .ok (.lconst 0, 1) := by decide +kernel
theorem d_Splt_split_164 : decode c_Splt_split 164 = .ok (.invokevirtual 118, 3) := by decide +kernel
theorem d_Splt_split_167 : decode c_Splt_split 167 = .ok (.aload_n 0, 1) := by decide +kernel
theorem d_Splt_split_168 : decode c_Splt_split 168 = .ok (.getfield 58, 3) := by decide +kernel
theorem d_Splt_split_171 : decode c_Splt_split 171 = .ok (.getfield 122, 3) := by decide +kernel
theorem d_Splt_split_174 : decode c_Splt_split 174 = .ok (.iconst 1, 1) := by decide +kernel
theorem d_Splt_split_175 : decode c_Splt_split 175 = .ok (.lconst 1, 1) := by decide +kernel
theorem d_Splt_split_176 : decode c_Splt_split 176 = .ok (.lastore, 1) := by decide +kernel
theorem d_Splt_split_177 : decode c_Splt_split 177 = .ok (.aload_n 0, 1) := by decide +kernel
theorem d_Splt_split_178 : decode c_Splt_split 178 = .ok (.getfield 58, 3) := by decide +kernel
theorem d_Splt_split_181 : decode c_Splt_split 181 = .ok (.iconst 1, 1) := by decide +kernel
theorem d_Splt_split_182 : decode c_Splt_split 182 = .ok (.putfield 76, 3) := by decide +kernel
theorem d_Splt_split_185 : decode c_Splt_split 185 = .ok (.aload_n 0, 1) := by decide +kernel
theorem d_Splt_split_186 : decode c_Splt_split 186 = .ok (.getfield 12, 3) := by decide +kernel
theorem d_Splt_split_189 : decode c_Splt_split 189 = .ok (.aload_n 0, 1) := by decide +kernel
theorem d_Splt_split_190 : decode c_Splt_split 190 = .ok (.getfield 58, 3) := by decide +kernel
theorem d_Splt_split_193 : decode c_Splt_split 193 = .ok (.iload_n 2, 1) := by decide +kernel
theorem d_Splt_split_194 : decode c_Splt_split 194 = .ok (.invokevirtual 111, 3) := by decide +kernel
theorem d_Splt_split_197 : decode c_Splt_split 197 = .ok (.return_, 1) := by decide +kernel
theorem g_370 : jG (Jvm.Cond.methodLink "FactorDesk$Poly" (19 : Nat) ({ cls := "java/lang/System", name := "arraycopy", desc := "(Ljava/lang/Object;ILjava/lang/Object;II)V" } : Jvm.MethodName)) := jG_of 435 (by decide +kernel) (by decide +kernel)
theorem g_372 : jG (Jvm.Cond.native ({ cls := "java/lang/System", name := "arraycopy", desc := "(Ljava/lang/Object;ILjava/lang/Object;II)V" } : Jvm.MethodName)) := jG_of 437 (by decide +kernel) (by decide +kernel)
theorem g_371 : jG (Jvm.Cond.static ({ cls := "java/lang/System", name := "arraycopy", desc := "(Ljava/lang/Object;ILjava/lang/Object;II)V" } : Jvm.MethodName)) := jG_of 436 (by decide +kernel) (by decide +kernel)
theorem g_16 : jG (Jvm.Cond.initialized "java/lang/System") := jG_of 81 (by decide +kernel) (by decide +kernel)
theorem g_77 : jG (Jvm.Cond.fieldLink "FactorDesk$Splitter" (61 : Nat) "FactorDesk$FactorList" "count" "I") := jG_of 142 (by decide +kernel) (by decide +kernel)
theorem g_366 : jG (Jvm.Cond.methodLink "FactorDesk$Splitter" (65 : Nat) ({ cls := "FactorDesk$Poly", name := "copyFrom", desc := "(LFactorDesk$Poly;)V" } : Jvm.MethodName)) := jG_of 431 (by decide +kernel) (by decide +kernel)
theorem g_369 : jG (Jvm.Cond.code ({ cls := "FactorDesk$Poly", name := "copyFrom", desc := "(LFactorDesk$Poly;)V" } : Jvm.MethodName) prog_7_method_2_code (2 : Nat) (Option.none : Option Jvm.ClassFile.FieldType)) := jG_of 434 (by decide +kernel) (by decide +kernel)
theorem g_367 : jG (Jvm.Cond.instanceMethod ({ cls := "FactorDesk$Poly", name := "copyFrom", desc := "(LFactorDesk$Poly;)V" } : Jvm.MethodName)) := jG_of 432 (by decide +kernel) (by decide +kernel)
theorem g_368 : jG (Jvm.Cond.selects "FactorDesk$Poly" ({ cls := "FactorDesk$Poly", name := "copyFrom", desc := "(LFactorDesk$Poly;)V" } : Jvm.MethodName) ({ cls := "FactorDesk$Poly", name := "copyFrom", desc := "(LFactorDesk$Poly;)V" } : Jvm.MethodName)) := jG_of 433 (by decide +kernel) (by decide +kernel)
theorem g_373 : jG (Jvm.Cond.methodLink "FactorDesk$Splitter" (69 : Nat) ({ cls := "FactorDesk$Poly", name := "makePrimitive", desc := "()V" } : Jvm.MethodName)) := jG_of 438 (by decide +kernel) (by decide +kernel)
theorem g_376 : jG (Jvm.Cond.code ({ cls := "FactorDesk$Poly", name := "makePrimitive", desc := "()V" } : Jvm.MethodName) prog_7_method_7_code (4 : Nat) (Option.none : Option Jvm.ClassFile.FieldType)) := jG_of 441 (by decide +kernel) (by decide +kernel)
theorem g_374 : jG (Jvm.Cond.instanceMethod ({ cls := "FactorDesk$Poly", name := "makePrimitive", desc := "()V" } : Jvm.MethodName)) := jG_of 439 (by decide +kernel) (by decide +kernel)
theorem g_375 : jG (Jvm.Cond.selects "FactorDesk$Poly" ({ cls := "FactorDesk$Poly", name := "makePrimitive", desc := "()V" } : Jvm.MethodName) ({ cls := "FactorDesk$Poly", name := "makePrimitive", desc := "()V" } : Jvm.MethodName)) := jG_of 440 (by decide +kernel) (by decide +kernel)
theorem g_379 : jG (Jvm.Cond.methodLink "FactorDesk$Splitter" (72 : Nat) ({ cls := "FactorDesk$Poly", name := "takeOutX", desc := "()I" } : Jvm.MethodName)) := jG_of 444 (by decide +kernel) (by decide +kernel)
theorem g_382 : jG (Jvm.Cond.code ({ cls := "FactorDesk$Poly", name := "takeOutX", desc := "()I" } : Jvm.MethodName) prog_7_method_9_code (3 : Nat) (Option.some Jvm.ClassFile.FieldType.int)) := jG_of 447 (by decide +kernel) (by decide +kernel)
theorem g_380 : jG (Jvm.Cond.instanceMethod ({ cls := "FactorDesk$Poly", name := "takeOutX", desc := "()I" } : Jvm.MethodName)) := jG_of 445 (by decide +kernel) (by decide +kernel)
theorem g_381 : jG (Jvm.Cond.selects "FactorDesk$Poly" ({ cls := "FactorDesk$Poly", name := "takeOutX", desc := "()I" } : Jvm.MethodName) ({ cls := "FactorDesk$Poly", name := "takeOutX", desc := "()I" } : Jvm.MethodName)) := jG_of 446 (by decide +kernel) (by decide +kernel)
theorem g_44 : jG (Jvm.Cond.fieldLink "FactorDesk$Splitter" (76 : Nat) "FactorDesk$Poly" "degree" "I") := jG_of 109 (by decide +kernel) (by decide +kernel)
def jDesk (Y : Nat → ClassId) (h : jH) (d : Nat) : Prop := h d = some (.inr (8, [.ref (d + 1), .int 0, .ref (d + 2), .ref (d + 4), .ref (d + 6), .ref (d + 8), .ref (d + 10), .ref (d + 37), .ref (d + 65), .ref (d + 66)])) ∧ h (d + 1) = some (.inl (Y 0, 13, .inl (fun _ => 0))) ∧ h (d + 2) = some (.inr (0, [.ref (d + 3), .int 0])) ∧ h (d + 3) = some (.inl (Y 1, 13, .inr (.inl jOne))) ∧ h (d + 8) = some (.inr (0, [.ref (d + 9), .int 0])) ∧ h (d + 9) = some (.inl (Y 1, 13, .inr (.inl jOne))) ∧ h (d + 10) = some (.inr (1, [.ref (d + 11), .ref (d + 36), .int 0])) ∧ h (d + 37) = some (.inr (7, [.ref (d + 38), .ref (d + 65), .ref (d + 66), .int 0, .ref (d + 83), .ref (d + 84), .ref (d + 202), .ref (d + 204), .ref (d + 206)])) ∧ h (d + 38) = some (.inr (1, [.ref (d + 39), .ref (d + 64), .int 0])) ∧ h (d + 202) = some (.inr (0, [.ref (d + 203), .int (-1)])) ∧ h (d + 203) = some (.inl (Y 1, 13, .inr (.inl (fun _ => 0))))
theorem cpy13 : va_cpy jOne (fun _ => 0) 0 0 13 = jOne := by
  funext k; unfold va_cpy jOne vp_updL; by_cases h : k < 13 <;> simp [h] <;> omega
set_option maxHeartbeats 4000000 in
set_option maxRecDepth 100000 in
theorem k_copyOne (l : Launch) {b : Nat} {D : va_G} {Y : Nat → ClassId} {s0 : State} (Z : jS0 b D Y s0) (a q a2 q2 n : Nat) (dd : Int32) (h : jH) (hne : a ≠ q ∧ a ≠ a2 ∧ a ≠ q2 ∧ q ≠ a2 ∧ q ≠ q2) (H0 : h a = some (.inr (0, [.ref q, .int dd]))) (H1 : h q = some (.inl (Y 1, 13, .inr (.inl (fun _ => 0))))) (H2 : h a2 = some (.inr (0, [.ref q2, .int 0]))) (H3 : h q2 = some (.inl (Y 1, 13, .inr (.inl jOne)))) : jMet l D s0 y_Poly_copyFrom c_Poly_copyFrom 2 none 2 [.ref a, .ref a2] h n 0 0 (fun r h2 n2 => r = none ∧ n = n2 ∧ h2 a = some (.inr (0, [.ref q, .int 0])) ∧ h2 q = some (.inl (Y 1, 13, .inr (.inl jOne))) ∧ ∀ x, x ≠ a → x ≠ q → h2 x = h x) := by
  refine jMet_of Z (by decide) (Nat.le_of_ble_eq_true rfl) ?_
  intro p e s m below meth c
  refine j_aload_n d_Poly_copyFrom_0 1 rfl ?_
  refine j_get iw_Poly (ci := 0) (kf := 0) rfl (by decide) g_33 d_Poly_copyFrom_1 H2 rfl ?_
  refine j_iconst d_Poly_copyFrom_4 (v := 0) (by decide) ?_
  refine j_aload_n d_Poly_copyFrom_5 0 rfl ?_
  refine j_get iw_Poly (ci := 0) (kf := 0) rfl (by decide) g_33 d_Poly_copyFrom_6 H0 rfl ?_
  refine j_iconst d_Poly_copyFrom_9 (v := 0) (by decide) ?_
  refine j_bipush d_Poly_copyFrom_10 (v := 13) (by decide) ?_
  refine j_copyl g_370 g_372 g_371 g_16 H3 H1 (by decide) (by decide) (by decide) (by decide) (by decide) (Nat.le_of_ble_eq_true rfl) (by decide +kernel) d_Poly_copyFrom_12 ?_
  refine j_aload_n d_Poly_copyFrom_15 0 rfl ?_
  refine j_aload_n d_Poly_copyFrom_16 1 rfl ?_
  refine j_get iw_Poly (ci := 0) (kf := 1) rfl (by decide) g_41 d_Poly_copyFrom_17 ((jh_up_n _ _ (by omega)).trans H2) rfl ?_
  refine j_put iw_Poly t_Poly t_Poly_ok n_Poly (ci := 0) (kf := 1) rfl (by decide) g_41 rfl (t_Poly_ok 1 (by decide)) rfl rfl d_Poly_copyFrom_20 ((jh_up_n _ _ (by omega)).trans H0) (Nat.le_of_ble_eq_true rfl) ?_
  refine j_vret rfl d_Poly_copyFrom_23 ⟨rfl, rfl, (jh_up_s _ _ _), ((jh_up_n _ _ (by omega)).trans (jh_up_s _ _ _)).trans (congrArg (fun f => some (Sum.inl (Y 1, 13, Sum.inr (Sum.inl f)))) cpy13), fun x h1 h2 => ((jh_up_n _ _ (by omega)).trans (jh_up_n _ _ (by omega)))⟩
theorem updS {f : Nat → Int64} {i : Nat} {x : Int64} (h : x = f i) : vp_updL f i x = f := by
  subst h; funext j; unfold vp_updL; split <;> simp_all
set_option maxHeartbeats 4000000 in
set_option maxRecDepth 100000 in
theorem k_takeOutX_loop (l : Launch) {b : Nat} {D : va_G} {Y : Nat → ClassId} {s0 : State} (Z : jS0 b D Y s0) {p : Program} {e : Env} {s : State} {m : MethodId} {below : List Frame} {meth : Method} {c : Code} {Q : State → Prop} (a q n : Nat) (hb : jH) (haq : a ≠ q) (hx : ∀ h2 : jH, h2 a = some (.inr (0, [.ref q, .int 0])) → h2 q = some (.inl (Y 1, 13, .inr (.inl jOne))) → (∀ x, x ≠ q → h2 x = hb x) → jW b D Y s0 p l e (jrm 1 0 0) s m [Value.ref a].toArray below meth c y_Poly_takeOutX.cls c_Poly_takeOutX 3 (some .int) y_Poly_takeOutX.name Q 67 [(2, .int 13), (1, .int 0), (0, .ref a)] [] h2 n 0 0) :
    ∀ (j i : Nat), i + j = 13 → ∀ (h : jH), h a = some (.inr (0, [.ref q, .int 0])) → h q = some (.inl (Y 1, 13, .inr (.inl jOne))) → (∀ x, x ≠ q → h x = hb x) → jW b D Y s0 p l e (jrm 1 0 0) s m [Value.ref a].toArray below meth c y_Poly_takeOutX.cls c_Poly_takeOutX 3 (some .int) y_Poly_takeOutX.name Q 29 [(2, .int (nI i)), (1, .int 0), (0, .ref a)] [] h n 0 0 := by
  intro j
  induction j with
  | zero =>
    intro i hi h H0 H1 HF
    obtain rfl : i = 13 := by omega
    refine j_iload_n d_Poly_takeOutX_29 0 rfl ?_
    refine j_bipush d_Poly_takeOutX_30 (v := 12) (by decide) ?_
    refine j_icmp_gt_t (tgt := 67) d_Poly_takeOutX_32 (by decide) (by decide) ?_
    exact hx h H0 H1 HF
  | succ j ih =>
    intro i hi h H0 H1 HF
    have hi13 : i < 13 := by omega
    refine j_iload_n d_Poly_takeOutX_29 0 rfl ?_
    refine j_bipush d_Poly_takeOutX_30 (v := 12) (by decide) ?_
    refine j_icmp_gt_f (tgt := 67) d_Poly_takeOutX_32 (by decide) (nI_nlt (a := 12) (by omega) (by decide)) ?_
    refine j_aload_n d_Poly_takeOutX_35 2 rfl ?_
    refine j_get iw_Poly (ci := 0) (kf := 0) rfl (by decide) g_33 d_Poly_takeOutX_36 H0 rfl ?_
    refine j_iload_n d_Poly_takeOutX_39 0 rfl ?_
    refine j_iload_n d_Poly_takeOutX_40 0 rfl ?_
    refine j_iload_n d_Poly_takeOutX_41 1 rfl ?_
    refine j_iadd d_Poly_takeOutX_42 ?_
    refine j_bipush d_Poly_takeOutX_43 (v := 12) (by decide) ?_
    refine j_icmp_gt_f (tgt := 59) d_Poly_takeOutX_45 (by decide) (by rw [Int32.add_zero]; exact nI_nlt (a := 12) (by omega) (by decide)) ?_
    refine j_aload_n d_Poly_takeOutX_48 2 rfl ?_
    refine j_get iw_Poly (ci := 0) (kf := 0) rfl (by decide) g_33 d_Poly_takeOutX_49 H0 rfl ?_
    refine j_iload_n d_Poly_takeOutX_52 0 rfl ?_
    refine j_iload_n d_Poly_takeOutX_53 1 rfl ?_
    refine j_iadd d_Poly_takeOutX_54 ?_
    refine j_lald d_Poly_takeOutX_55 H1 (by rw [Int32.add_zero]; exact nI_in hi13 (by omega)) ?_
    refine j_goto (tgt := 60) d_Poly_takeOutX_56 (by decide) ?_
    refine j_last d_Poly_takeOutX_60 H1 (nI_in hi13 (by omega)) ?_
    refine j_iinc d_Poly_takeOutX_61 0 rfl (v := nI (i + 1)) (nI_1 i) (Nat.le_of_ble_eq_true rfl) rfl ?_
    refine j_goto (tgt := 29) d_Poly_takeOutX_64 (by decide) ?_
    exact ih (i + 1) (by omega) _ ((jh_up_n _ _ (by omega)).trans H0) ((jh_up_s _ _ _).trans (congrArg (fun f => some (Sum.inl (Y 1, 13, Sum.inr (Sum.inl f)))) (updS (by rw [Int32.add_zero])))) (fun x h1x => (jh_up_n _ _ (by omega)).trans (HF x h1x))
set_option maxHeartbeats 4000000 in
set_option maxRecDepth 100000 in
theorem k_takeOutX (l : Launch) {b : Nat} {D : va_G} {Y : Nat → ClassId} {s0 : State} (Z : jS0 b D Y s0) (a q n : Nat) (h : jH) (haq : a ≠ q) (H0 : h a = some (.inr (0, [.ref q, .int 0]))) (H1 : h q = some (.inl (Y 1, 13, .inr (.inl jOne)))) : jMet l D s0 y_Poly_takeOutX c_Poly_takeOutX 3 (some .int) 1 [.ref a] h n 0 0 (fun r h2 n2 => r = some (.int 0) ∧ n = n2 ∧ h2 a = some (.inr (0, [.ref q, .int 0])) ∧ h2 q = some (.inl (Y 1, 13, .inr (.inl jOne))) ∧ ∀ x, x ≠ a → x ≠ q → h2 x = h x) := by
  refine jMet_of Z (by decide) (Nat.le_of_ble_eq_true rfl) ?_
  intro p e s m below meth c
  refine j_iconst d_Poly_takeOutX_0 (v := 0) (by decide) ?_
  refine j_istore_n d_Poly_takeOutX_1 (Nat.le_of_ble_eq_true rfl) rfl ?_
  refine j_iload_n d_Poly_takeOutX_2 0 rfl ?_
  refine j_aload_n d_Poly_takeOutX_3 1 rfl ?_
  refine j_get iw_Poly (ci := 0) (kf := 1) rfl (by decide) g_41 d_Poly_takeOutX_4 H0 rfl ?_
  refine j_icmp_ge_t (tgt := 27) d_Poly_takeOutX_7 (by decide) (by decide) ?_
  refine j_iconst d_Poly_takeOutX_27 (v := 0) (by decide) ?_
  refine j_istore_n d_Poly_takeOutX_28 (Nat.le_of_ble_eq_true rfl) rfl ?_
  refine k_takeOutX_loop l Z a q n h haq (fun h3 A3 B3 G3 => ?_) 13 0 rfl h H0 H1 (fun x _ => rfl)
  refine j_aload_n d_Poly_takeOutX_67 2 rfl ?_
  refine j_dup d_Poly_takeOutX_68 rfl ?_
  refine j_get iw_Poly (ci := 0) (kf := 1) rfl (by decide) g_41 d_Poly_takeOutX_69 A3 rfl ?_
  refine j_iload_n d_Poly_takeOutX_72 1 rfl ?_
  refine j_isub d_Poly_takeOutX_73 ?_
  refine j_put iw_Poly t_Poly t_Poly_ok n_Poly (ci := 0) (kf := 1) rfl (by decide) g_41 rfl (t_Poly_ok 1 (by decide)) rfl rfl d_Poly_takeOutX_74 A3 (Nat.le_of_ble_eq_true rfl) ?_
  refine j_iload_n d_Poly_takeOutX_77 1 rfl ?_
  refine j_iret rfl d_Poly_takeOutX_78 ⟨rfl, rfl, (jh_up_s _ _ _), ((jh_up_n _ _ (by omega)).trans B3), fun x h1 h2 => ((jh_up_n _ _ (by omega)).trans (G3 x h2))⟩
set_option maxHeartbeats 4000000 in
set_option maxRecDepth 100000 in
theorem k_split (l : Launch) {b : Nat} {D : va_G} {Y : Nat → ClassId} {s0 : State} (Z : jS0 b D Y s0) (d n : Nat) (h : jH) (HD : jDesk Y h d) : jMet l D s0 y_Splt_split c_Splt_split 3 none 4 [.ref (d + 37), .ref (d + 2)] h n 0 0 (fun r h2 n2 => r = none ∧ n = n2 ∧ h2 (d + 37) = some (.inr (7, [.ref (d + 38), .ref (d + 65), .ref (d + 66), .int 1, .ref (d + 83), .ref (d + 84), .ref (d + 202), .ref (d + 204), .ref (d + 206)])) ∧ h2 (d + 38) = some (.inr (1, [.ref (d + 39), .ref (d + 64), .int 0])) ∧ ∀ x, x ≠ d + 37 → x ≠ d + 38 → x ≠ d + 202 → x ≠ d + 203 → h2 x = h x) := by
  refine jMet_of Z (by decide) (Nat.le_of_ble_eq_true rfl) ?_
  intro p e s m below meth c
  obtain ⟨D0, D1, D2, D3, D8, D9, D10, D37, D38, D202, D203⟩ := HD
  refine j_aload_n d_Splt_split_0 0 rfl ?_
  refine j_get iw_Splt (ci := 7) (kf := 3) rfl (by decide) g_279 d_Splt_split_1 D37 rfl ?_
  refine j_if_eq_t (tgt := 8) d_Splt_split_4 (by decide) (by decide) ?_
  refine j_aload_n d_Splt_split_8 0 rfl ?_
  refine j_iconst d_Splt_split_9 (v := 1) (by decide) ?_
  refine j_put iw_Splt t_Splt t_Splt_ok n_Splt (ci := 7) (kf := 3) rfl (by decide) g_279 rfl (t_Splt_ok 3 (by decide)) rfl rfl d_Splt_split_10 D37 (Nat.le_of_ble_eq_true rfl) ?_
  refine j_aload_n d_Splt_split_13 0 rfl ?_
  refine j_get iw_Splt (ci := 7) (kf := 0) rfl (by decide) g_273 d_Splt_split_14 (jh_up_s _ _ _) rfl ?_
  refine j_iconst d_Splt_split_17 (v := 0) (by decide) ?_
  refine j_put iw_FList t_FList t_FList_ok n_FList (ci := 1) (kf := 2) rfl (by decide) g_77 rfl (t_FList_ok 2 (by decide)) rfl rfl d_Splt_split_18 ((jh_up_n _ _ (by omega)).trans D38) (Nat.le_of_ble_eq_true rfl) ?_
  refine j_aload_n d_Splt_split_21 0 rfl ?_
  refine j_get iw_Splt (ci := 7) (kf := 6) rfl (by decide) g_282 d_Splt_split_22 ((jh_up_n _ _ (by omega)).trans (jh_up_s _ _ _)) rfl ?_
  refine j_aload_n d_Splt_split_25 1 rfl ?_
  refine j_callV (k_copyOne l Z (d + 202) (d + 203) (d + 2) (d + 3) n _ _ (by omega) ((jh_up_n _ _ (by omega)).trans ((jh_up_n _ _ (by omega)).trans D202)) ((jh_up_n _ _ (by omega)).trans ((jh_up_n _ _ (by omega)).trans D203)) ((jh_up_n _ _ (by omega)).trans ((jh_up_n _ _ (by omega)).trans D2)) ((jh_up_n _ _ (by omega)).trans ((jh_up_n _ _ (by omega)).trans D3))) ⟨⟨Nat.le_of_ble_eq_true rfl, Nat.le_of_ble_eq_true rfl⟩, g_366, g_369, g_2, (by decide +kernel), (by decide +kernel), (show _ = some 1 from by decide +kernel)⟩ g_367 g_368 (ci := 0) rfl ((jh_up_n _ _ (by omega)).trans ((jh_up_n _ _ (by omega)).trans D202)) ⟨(by first | exact Nat.le_of_ble_eq_true rfl | (simp only [jrm]; omega)), (by first | exact Nat.le_of_ble_eq_true rfl | (simp only [jrm]; omega))⟩ (Nat.le_of_ble_eq_true rfl) d_Splt_split_26 (fun r0 h0 n0 P0 => ?_)
  obtain ⟨rfl, rfl, O0, A0, F0⟩ := P0
  have E0_0 := (F0 d (by omega) (by omega)).trans ((jh_up_n _ _ (by omega)).trans ((jh_up_n _ _ (by omega)).trans D0))
  have E0_1 := (F0 (d + 1) (by omega) (by omega)).trans ((jh_up_n _ _ (by omega)).trans ((jh_up_n _ _ (by omega)).trans D1))
  have E0_2 := (F0 (d + 2) (by omega) (by omega)).trans ((jh_up_n _ _ (by omega)).trans ((jh_up_n _ _ (by omega)).trans D2))
  have E0_3 := (F0 (d + 3) (by omega) (by omega)).trans ((jh_up_n _ _ (by omega)).trans ((jh_up_n _ _ (by omega)).trans D3))
  have E0_4 := (F0 (d + 8) (by omega) (by omega)).trans ((jh_up_n _ _ (by omega)).trans ((jh_up_n _ _ (by omega)).trans D8))
  have E0_5 := (F0 (d + 9) (by omega) (by omega)).trans ((jh_up_n _ _ (by omega)).trans ((jh_up_n _ _ (by omega)).trans D9))
  have E0_6 := (F0 (d + 10) (by omega) (by omega)).trans ((jh_up_n _ _ (by omega)).trans ((jh_up_n _ _ (by omega)).trans D10))
  have E0_7 := (F0 (d + 37) (by omega) (by omega)).trans ((jh_up_n _ _ (by omega)).trans (jh_up_s _ _ _))
  have E0_8 := (F0 (d + 38) (by omega) (by omega)).trans (jh_up_s _ _ _)
  refine j_aload_n d_Splt_split_29 0 rfl ?_
  refine j_get iw_Splt (ci := 7) (kf := 6) rfl (by decide) g_282 d_Splt_split_30 E0_7 rfl ?_
  refine j_callV (k_makePrimitive l Z (d + 202) (d + 203) _ _ O0 A0) ⟨⟨Nat.le_of_ble_eq_true rfl, Nat.le_of_ble_eq_true rfl⟩, g_373, g_376, g_2, by decide +kernel⟩ g_374 g_375 (ci := 0) rfl O0 ⟨(by first | exact Nat.le_of_ble_eq_true rfl | (simp only [jrm]; omega)), (by first | exact Nat.le_of_ble_eq_true rfl | (simp only [jrm]; omega))⟩ (Nat.le_of_ble_eq_true rfl) d_Splt_split_33 (fun r1 h1 n1 P1 => ?_)
  obtain ⟨rfl, rfl, rfl⟩ := P1
  refine j_aload_n d_Splt_split_36 0 rfl ?_
  refine j_get iw_Splt (ci := 7) (kf := 6) rfl (by decide) g_282 d_Splt_split_37 E0_7 rfl ?_
  refine j_callV (k_takeOutX l Z (d + 202) (d + 203) _ _ (by omega) O0 A0) ⟨⟨Nat.le_of_ble_eq_true rfl, Nat.le_of_ble_eq_true rfl⟩, g_379, g_382, g_2, by decide +kernel⟩ g_380 g_381 (ci := 0) rfl O0 ⟨(by first | exact Nat.le_of_ble_eq_true rfl | (simp only [jrm]; omega)), (by first | exact Nat.le_of_ble_eq_true rfl | (simp only [jrm]; omega))⟩ (Nat.le_of_ble_eq_true rfl) d_Splt_split_40 (fun r2 h2 n2 P2 => ?_)
  obtain ⟨rfl, rfl, O2, A2, F2⟩ := P2
  have E2_0 := (F2 d (by omega) (by omega)).trans E0_0
  have E2_1 := (F2 (d + 1) (by omega) (by omega)).trans E0_1
  have E2_2 := (F2 (d + 2) (by omega) (by omega)).trans E0_2
  have E2_3 := (F2 (d + 3) (by omega) (by omega)).trans E0_3
  have E2_4 := (F2 (d + 8) (by omega) (by omega)).trans E0_4
  have E2_5 := (F2 (d + 9) (by omega) (by omega)).trans E0_5
  have E2_6 := (F2 (d + 10) (by omega) (by omega)).trans E0_6
  have E2_7 := (F2 (d + 37) (by omega) (by omega)).trans E0_7
  have E2_8 := (F2 (d + 38) (by omega) (by omega)).trans E0_8
  refine j_istore_n d_Splt_split_43 (Nat.le_of_ble_eq_true rfl) rfl ?_
  refine j_aload_n d_Splt_split_44 1 rfl ?_
  refine j_get iw_Splt (ci := 7) (kf := 6) rfl (by decide) g_282 d_Splt_split_45 E2_7 rfl ?_
  refine j_get iw_Poly (ci := 0) (kf := 1) rfl (by decide) g_44 d_Splt_split_48 O2 rfl ?_
  refine j_if_le_t (tgt := 155) d_Splt_split_51 (by decide) (by decide) ?_
  refine j_iload_n d_Splt_split_155 0 rfl ?_
  refine j_if_le_t (tgt := 197) d_Splt_split_156 (by decide) (by decide) ?_
  refine j_vret rfl d_Splt_split_197 ⟨rfl, rfl, E2_7, E2_8, fun x h1 h2 h3 h4 => ((F2 x (by omega) (by omega)).trans ((F0 x (by omega) (by omega)).trans ((jh_up_n _ _ (by omega)).trans (jh_up_n _ _ (by omega)))))⟩
