abbrev c_FList_copyFrom : ByteArray := prog_4_method_2_code
abbrev y_FList_copyFrom : MethodName := ⟨"FactorDesk$FactorList", "copyFrom", "(LFactorDesk$FactorList;)V"⟩
theorem d_FList_copyFrom_0 : decode c_FList_copyFrom 0 = .ok (.aload_n 0, 1) := by decide +kernel
theorem d_FList_copyFrom_1 : decode c_FList_copyFrom 1 = .ok (.aload_n 1, 1) := by decide +kernel
theorem d_FList_copyFrom_2 : decode c_FList_copyFrom 2 = .ok (.getfield 22, 3) := by decide +kernel
theorem d_FList_copyFrom_5 : decode c_FList_copyFrom 5 = .ok (.putfield 22, 3) := by decide +kernel
theorem d_FList_copyFrom_8 : decode c_FList_copyFrom 8 = .ok (.iconst 0, 1) := by decide +kernel
theorem d_FList_copyFrom_9 : decode c_FList_copyFrom 9 = .ok (.istore_n 2, 1) := by decide +kernel
theorem d_FList_copyFrom_10 : decode c_FList_copyFrom 10 = .ok (.iload_n 2, 1) := by decide +kernel
theorem d_FList_copyFrom_11 : decode c_FList_copyFrom 11 = .ok (.aload_n 0, 1) := by decide +kernel
theorem d_FList_copyFrom_12 : decode c_FList_copyFrom 12 = .ok (.getfield 22, 3) := by decide +kernel
theorem d_FList_copyFrom_15 : decode c_FList_copyFrom 15 = .ok (.if_icmp .ge 36, 3) := by decide +kernel
theorem d_FList_copyFrom_18 : decode c_FList_copyFrom 18 = .ok (.aload_n 0, 1) := by decide +kernel
theorem d_FList_copyFrom_19 : decode c_FList_copyFrom 19 = .ok (.getfield 11, 3) := by decide +kernel
theorem d_FList_copyFrom_22 : decode c_FList_copyFrom 22 = .ok (.iload_n 2, 1) := by decide +kernel
theorem d_FList_copyFrom_23 : decode c_FList_copyFrom 23 = .ok (.aaload, 1) := by decide +kernel
theorem d_FList_copyFrom_24 : decode c_FList_copyFrom 24 = .ok (.aload_n 1, 1) := by decide +kernel
theorem d_FList_copyFrom_25 : decode c_FList_copyFrom 25 = .ok (.getfield 11, 3) := by decide +kernel
theorem d_FList_copyFrom_28 : decode c_FList_copyFrom 28 = .ok (.iload_n 2, 1) := by decide +kernel
theorem d_FList_copyFrom_29 : decode c_FList_copyFrom 29 = .ok (.aaload, 1) := by decide +kernel
theorem d_FList_copyFrom_30 : decode c_FList_copyFrom 30 = .ok (.invokevirtual 26, 3) := by decide +kernel
theorem d_FList_copyFrom_33 : decode c_FList_copyFrom 33 = .ok (.aload_n 0, 1) := by decide +kernel
theorem d_FList_copyFrom_34 : decode c_FList_copyFrom 34 = .ok (.getfield 18, 3) := by decide +kernel
theorem d_FList_copyFrom_37 : decode c_FList_copyFrom 37 = .ok (.iload_n 2, 1) := by decide +kernel
theorem d_FList_copyFrom_38 : decode c_FList_copyFrom 38 = .ok (.aload_n 1, 1) := by decide +kernel
theorem d_FList_copyFrom_39 : decode c_FList_copyFrom 39 = .ok (.getfield 18, 3) := by decide +kernel
theorem d_FList_copyFrom_42 : decode c_FList_copyFrom 42 = .ok (.iload_n 2, 1) := by decide +kernel
theorem d_FList_copyFrom_43 : decode c_FList_copyFrom 43 = .ok (.iaload, 1) := by decide +kernel
theorem d_FList_copyFrom_44 : decode c_FList_copyFrom 44 = .ok (.iastore, 1) := by decide +kernel
theorem d_FList_copyFrom_45 : decode c_FList_copyFrom 45 = .ok (.iinc 2 1, 3) := by decide +kernel
theorem d_FList_copyFrom_48 : decode c_FList_copyFrom 48 = .ok (.goto (-38), 3) := by decide +kernel
theorem d_FList_copyFrom_51 : decode c_FList_copyFrom 51 = .ok (.return_, 1) := by decide +kernel
abbrev c_FList_countOfDegree : ByteArray := prog_4_method_4_code
abbrev y_FList_countOfDegree : MethodName := ⟨"FactorDesk$FactorList", "countOfDegree", "(I)I"⟩
theorem d_FList_countOfDegree_0 : decode c_FList_countOfDegree 0 = .ok (.iconst 0, 1) := by decide +kernel
theorem d_FList_countOfDegree_1 : decode c_FList_countOfDegree 1 = .ok (.istore_n 2, 1) := by decide +kernel
theorem d_FList_countOfDegree_2 : decode c_FList_countOfDegree 2 = .ok (.iconst 0, 1) := by decide +kernel
theorem d_FList_countOfDegree_3 : decode c_FList_countOfDegree 3 = .ok (.istore_n 3, 1) := by decide +kernel
theorem d_FList_countOfDegree_4 : decode c_FList_countOfDegree 4 = .ok (.iload_n 3, 1) := by decide +kernel
theorem d_FList_countOfDegree_5 : decode c_FList_countOfDegree 5 = .ok (.aload_n 0, 1) := by decide +kernel
theorem d_FList_countOfDegree_6 : decode c_FList_countOfDegree 6 = .ok (.getfield 22, 3) := by decide +kernel
theorem d_FList_countOfDegree_9 : decode c_FList_countOfDegree 9 = .ok (.if_icmp .ge 31, 3) := by decide +kernel
theorem d_FList_countOfDegree_12 : decode c_FList_countOfDegree 12 = .ok (.aload_n 0, 1) := by decide +kernel
theorem d_FList_countOfDegree_13 : decode c_FList_countOfDegree 13 = .ok (.getfield 11, 3) := by decide +kernel
theorem d_FList_countOfDegree_16 : decode c_FList_countOfDegree 16 = .ok (.iload_n 3, 1) := by decide +kernel
theorem d_FList_countOfDegree_17 : decode c_FList_countOfDegree 17 = .ok (.aaload, 1) := by decide +kernel
theorem d_FList_countOfDegree_18 : decode c_FList_countOfDegree 18 = .ok (.getfield 34, 3) := by decide +kernel
theorem d_FList_countOfDegree_21 : decode c_FList_countOfDegree 21 = .ok (.iload_n 1, 1) := by decide +kernel
theorem d_FList_countOfDegree_22 : decode c_FList_countOfDegree 22 = .ok (.if_icmp .ne 12, 3) := by decide +kernel
theorem d_FList_countOfDegree_25 : decode c_FList_countOfDegree 25 = .ok (.iload_n 2, 1) := by decide +kernel
theorem d_FList_countOfDegree_26 : decode c_FList_countOfDegree 26 = .ok (.aload_n 0, 1) := by decide +kernel
theorem d_FList_countOfDegree_27 : decode c_FList_countOfDegree 27 = .ok (.getfield 18, 3) := by decide +kernel
theorem d_FList_countOfDegree_30 : decode c_FList_countOfDegree 30 = .ok (.iload_n 3, 1) := by decide +kernel
theorem d_FList_countOfDegree_31 : decode c_FList_countOfDegree 31 = .ok (.iaload, 1) := by decide +kernel
theorem d_FList_countOfDegree_32 : decode c_FList_countOfDegree 32 = .ok (.iadd, 1) := by decide +kernel
theorem d_FList_countOfDegree_33 : decode c_FList_countOfDegree 33 = .ok (.istore_n 2, 1) := by decide +kernel
theorem d_FList_countOfDegree_34 : decode c_FList_countOfDegree 34 = .ok (.iinc 3 1, 3) := by decide +kernel
theorem d_FList_countOfDegree_37 : decode c_FList_countOfDegree 37 = .ok (.goto (-33), 3) := by decide +kernel
theorem d_FList_countOfDegree_40 : decode c_FList_countOfDegree 40 = .ok (.iload_n 2, 1) := by decide +kernel
theorem d_FList_countOfDegree_41 : decode c_FList_countOfDegree 41 = .ok (.ireturn, 1) := by decide +kernel
abbrev c_Desk_factors : ByteArray := prog_1_method_9_code
abbrev y_Desk_factors : MethodName := ⟨"FactorDesk", "factors", "()I"⟩
theorem d_Desk_factors_0 : decode c_Desk_factors 0 = .ok (.aload_n 0, 1) := by decide +kernel
theorem d_Desk_factors_1 : decode c_Desk_factors 1 = .ok (.getfield 47, 3) := by decide +kernel
theorem d_Desk_factors_4 : decode c_Desk_factors 4 = .ok (.aload_n 0, 1) := by decide +kernel
theorem d_Desk_factors_5 : decode c_Desk_factors 5 = .ok (.getfield 20, 3) := by decide +kernel
theorem d_Desk_factors_8 : decode c_Desk_factors 8 = .ok (.invokevirtual 112, 3) := by decide +kernel
theorem d_Desk_factors_11 : decode c_Desk_factors 11 = .ok (.aload_n 0, 1) := by decide +kernel
theorem d_Desk_factors_12 : decode c_Desk_factors 12 = .ok (.getfield 40, 3) := by decide +kernel
theorem d_Desk_factors_15 : decode c_Desk_factors 15 = .ok (.aload_n 0, 1) := by decide +kernel
theorem d_Desk_factors_16 : decode c_Desk_factors 16 = .ok (.getfield 47, 3) := by decide +kernel
theorem d_Desk_factors_19 : decode c_Desk_factors 19 = .ok (.getfield 115, 3) := by decide +kernel
theorem d_Desk_factors_22 : decode c_Desk_factors 22 = .ok (.invokevirtual 118, 3) := by decide +kernel
theorem d_Desk_factors_25 : decode c_Desk_factors 25 = .ok (.aload_n 0, 1) := by decide +kernel
theorem d_Desk_factors_26 : decode c_Desk_factors 26 = .ok (.getfield 40, 3) := by decide +kernel
theorem d_Desk_factors_29 : decode c_Desk_factors 29 = .ok (.getfield 121, 3) := by decide +kernel
theorem d_Desk_factors_32 : decode c_Desk_factors 32 = .ok (.ireturn, 1) := by decide +kernel
abbrev c_Desk_isIrreducible : ByteArray := prog_1_method_12_code
abbrev y_Desk_isIrreducible : MethodName := ⟨"FactorDesk", "isIrreducible", "()Z"⟩
theorem d_Desk_isIrreducible_0 : decode c_Desk_isIrreducible 0 = .ok (.aload_n 0, 1) := by decide +kernel
theorem d_Desk_isIrreducible_1 : decode c_Desk_isIrreducible 1 = .ok (.invokevirtual 138, 3) := by decide +kernel
theorem d_Desk_isIrreducible_4 : decode c_Desk_isIrreducible 4 = .ok (.lconst 1, 1) := by decide +kernel
theorem d_Desk_isIrreducible_5 : decode c_Desk_isIrreducible 5 = .ok (.lcmp, 1) := by decide +kernel
theorem d_Desk_isIrreducible_6 : decode c_Desk_isIrreducible 6 = .ok (.ifCond .eq 5, 3) := by decide +kernel
theorem d_Desk_isIrreducible_9 : decode c_Desk_isIrreducible 9 = .ok (.iconst 0, 1) := by decide +kernel
theorem d_Desk_isIrreducible_10 : decode c_Desk_isIrreducible 10 = .ok (.ireturn, 1) := by decide +kernel
theorem d_Desk_isIrreducible_11 : decode c_Desk_isIrreducible 11 = .ok (.aload_n 0, 1) := by decide +kernel
theorem d_Desk_isIrreducible_12 : decode c_Desk_isIrreducible 12 = .ok (.getfield 47, 3) := by decide +kernel
theorem d_Desk_isIrreducible_15 : decode c_Desk_isIrreducible 15 = .ok (.aload_n 0, 1) := by decide +kernel
theorem d_Desk_isIrreducible_16 : decode c_Desk_isIrreducible 16 = .ok (.getfield 20, 3) := by decide +kernel
theorem d_Desk_isIrreducible_19 : decode c_Desk_isIrreducible 19 = .ok (.invokevirtual 112, 3) := by decide +kernel
theorem d_Desk_isIrreducible_22 : decode c_Desk_isIrreducible 22 = .ok (.aload_n 0, 1) := by decide +kernel
theorem d_Desk_isIrreducible_23 : decode c_Desk_isIrreducible 23 = .ok (.getfield 47, 3) := by decide +kernel
theorem d_Desk_isIrreducible_26 : decode c_Desk_isIrreducible 26 = .ok (.getfield 115, 3) := by decide +kernel
theorem d_Desk_isIrreducible_29 : decode c_Desk_isIrreducible 29 = .ok (.getfield 121, 3) := by decide +kernel
theorem d_Desk_isIrreducible_32 : decode c_Desk_isIrreducible 32 = .ok (.iconst 1, 1) := by decide +kernel
theorem d_Desk_isIrreducible_33 : decode c_Desk_isIrreducible 33 = .ok (.if_icmp .ne 23, 3) := by decide +kernel
theorem d_Desk_isIrreducible_36 : decode c_Desk_isIrreducible 36 = .ok (.aload_n 0, 1) := by decide +kernel
theorem d_Desk_isIrreducible_37 : decode c_Desk_isIrreducible 37 = .ok (.getfield 47, 3) := by decide +kernel
theorem d_Desk_isIrreducible_40 : decode c_Desk_isIrreducible 40 = .ok (.getfield 115, 3) := by decide +kernel
theorem d_Desk_isIrreducible_43 : decode c_Desk_isIrreducible 43 = .ok (.getfield 133, 3) := by decide +kernel
theorem d_Desk_isIrreducible_46 : decode c_Desk_isIrreducible 46 = .ok (.iconst 0, 1) := by decide +kernel
theorem d_Desk_isIrreducible_47 : decode c_Desk_isIrreducible 47 = .ok (.iaload, 1) := by decide +kernel
theorem d_Desk_isIrreducible_48 : decode c_Desk_isIrreducible 48 = .ok (.iconst 1, 1) := by decide +kernel
theorem d_Desk_isIrreducible_49 : decode c_Desk_isIrreducible 49 = .ok (.if_icmp .ne 7, 3) := by decide +kernel
theorem d_Desk_isIrreducible_52 : decode c_Desk_isIrreducible 52 = .ok (.iconst 1, 1) := by decide +kernel
theorem d_Desk_isIrreducible_53 : decode c_Desk_isIrreducible 53 = .ok (.goto 4, 3) := by decide +kernel
theorem d_Desk_isIrreducible_56 : decode c_Desk_isIrreducible 56 = .ok (.iconst 0, 1) := by decide +kernel
theorem d_Desk_isIrreducible_57 : decode c_Desk_isIrreducible 57 = .ok (.ireturn, 1) := by decide +kernel
abbrev c_Desk_ofDegree : ByteArray := prog_1_method_13_code
abbrev y_Desk_ofDegree : MethodName := ⟨"FactorDesk", "ofDegree", "(I)I"⟩
theorem d_Desk_ofDegree_0 : decode c_Desk_ofDegree 0 = .ok (.iload_n 1, 1) := by decide +kernel
theorem d_Desk_ofDegree_1 : decode c_Desk_ofDegree 1 = .ok (.iconst 1, 1) := by decide +kernel
theorem d_Desk_ofDegree_2 : decode c_Desk_ofDegree 2 = .ok (.if_icmp .lt 9, 3) := by decide +kernel
theorem d_Desk_ofDegree_5 : decode c_Desk_ofDegree 5 = .ok (.iload_n 1, 1) := by decide +kernel
theorem d_Desk_ofDegree_6 : decode c_Desk_ofDegree 6 = .ok (.bipush 12, 2) := by decide +kernel
theorem d_Desk_ofDegree_8 : decode c_Desk_ofDegree 8 = .ok (.if_icmp .le 13, 3) := by decide +kernel
theorem d_Desk_ofDegree_11 : decode c_Desk_ofDegree 11 = .ok (.new 72, 3) := by decide +kernel
theorem d_Desk_ofDegree_14 : decode c_Desk_ofDegree 14 = .ok (.dup, 1) := by decide +kernel
theorem d_Desk_ofDegree_15 : decode c_Desk_ofDegree 15 = .ok (.ldc 141, 2) := by decide +kernel
theorem d_Desk_ofDegree_17 : decode c_Desk_ofDegree 17 = .ok (.invokespecial 76, 3) := by decide +kernel
theorem d_Desk_ofDegree_20 : decode c_Desk_ofDegree 20 = .ok (.athrow, 1) := by decide +kernel
theorem d_Desk_ofDegree_21 : decode c_Desk_ofDegree 21 = .ok (.aload_n 0, 1) := by decide +kernel
theorem d_Desk_ofDegree_22 : decode c_Desk_ofDegree 22 = .ok (.getfield 47, 3) := by decide +kernel
theorem d_Desk_ofDegree_25 : decode c_Desk_ofDegree 25 = .ok (.aload_n 0, 1) := by decide +kernel
theorem d_Desk_ofDegree_26 : decode c_Desk_ofDegree 26 = .ok (.getfield 20, 3) := by decide +kernel
theorem d_Desk_ofDegree_29 : decode c_Desk_ofDegree 29 = .ok (.invokevirtual 112, 3) := by decide +kernel
theorem d_Desk_ofDegree_32 : decode c_Desk_ofDegree 32 = .ok (.aload_n 0, 1) := by decide +kernel
theorem d_Desk_ofDegree_33 : decode c_Desk_ofDegree 33 = .ok (.getfield 47, 3) := by decide +kernel
theorem d_Desk_ofDegree_36 : decode c_Desk_ofDegree 36 = .ok (.getfield 115, 3) := by decide +kernel
theorem d_Desk_ofDegree_39 : decode c_Desk_ofDegree 39 = .ok (.iload_n 1, 1) := by decide +kernel
theorem d_Desk_ofDegree_40 : decode c_Desk_ofDegree 40 = .ok (.invokevirtual 143, 3) := by decide +kernel
theorem d_Desk_ofDegree_43 : decode c_Desk_ofDegree 43 = .ok (.ireturn, 1) := by decide +kernel
abbrev c_Math_floorMod : ByteArray := prog_15_method_52_code
abbrev y_Math_floorMod : MethodName := ⟨"java/lang/Math", "floorMod", "(JJ)J"⟩
theorem d_Math_floorMod_0 : decode c_Math_floorMod 0 = .ok (.lload_n 0, 1) := by decide +kernel
theorem d_Math_floorMod_1 : decode c_Math_floorMod 1 = .ok (.lload_n 2, 1) := by decide +kernel
theorem d_Math_floorMod_2 : decode c_Math_floorMod 2 = .ok (.lrem, 1) := by decide +kernel
theorem d_Math_floorMod_3 : decode c_Math_floorMod 3 = .ok (.lstore 4, 2) := by decide +kernel
theorem d_Math_floorMod_5 : decode c_Math_floorMod 5 = .ok (.lload_n 0, 1) := by decide +kernel
theorem d_Math_floorMod_6 : decode c_Math_floorMod 6 = .ok (.lload_n 2, 1) := by decide +kernel
theorem d_Math_floorMod_7 : decode c_Math_floorMod 7 = .ok (.lxor, 1) := by decide +kernel
theorem d_Math_floorMod_8 : decode c_Math_floorMod 8 = .ok (.lconst 0, 1) := by decide +kernel
theorem d_Math_floorMod_9 : decode c_Math_floorMod 9 = .ok (.lcmp, 1) := by decide +kernel
theorem d_Math_floorMod_10 : decode c_Math_floorMod 10 = .ok (.ifCond .ge 15, 3) := by decide +kernel
theorem d_Math_floorMod_13 : decode c_Math_floorMod 13 = .ok (.lload 4, 2) := by decide +kernel
theorem d_Math_floorMod_15 : decode c_Math_floorMod 15 = .ok (.lconst 0, 1) := by decide +kernel
theorem d_Math_floorMod_16 : decode c_Math_floorMod 16 = .ok (.lcmp, 1) := by decide +kernel
theorem d_Math_floorMod_17 : decode c_Math_floorMod 17 = .ok (.ifCond .eq 8, 3) := by decide +kernel
theorem d_Math_floorMod_20 : decode c_Math_floorMod 20 = .ok (.lload 4, 2) := by decide +kernel
theorem d_Math_floorMod_22 : decode c_Math_floorMod 22 = .ok (.lload_n 2, 1) := by decide +kernel
theorem d_Math_floorMod_23 : decode c_Math_floorMod 23 = .ok (.ladd, 1) := by decide +kernel
theorem d_Math_floorMod_24 : decode c_Math_floorMod 24 = .ok (.lreturn, 1) := by decide +kernel
theorem d_Math_floorMod_25 : decode c_Math_floorMod 25 = .ok (.lload 4, 2) := by decide +kernel
theorem d_Math_floorMod_27 : decode c_Math_floorMod 27 = .ok (.lreturn, 1) := by decide +kernel
abbrev c_Desk_value : ByteArray := prog_1_method_17_code
abbrev y_Desk_value : MethodName := ⟨"FactorDesk", "value", "(JI)J"⟩
theorem d_Desk_value_0 : decode c_Desk_value 0 = .ok (.iload_n 3, 1) := by decide +kernel
theorem d_Desk_value_1 : decode c_Desk_value 1 = .ok (.iconst 1, 1) := by decide +kernel
theorem d_Desk_value_2 : decode c_Desk_value 2 = .ok (.if_icmp .ge 13, 3) := by decide +kernel
theorem d_Desk_value_5 : decode c_Desk_value 5 = .ok (.new 72, 3) := by decide +kernel
theorem d_Desk_value_8 : decode c_Desk_value 8 = .ok (.dup, 1) := by decide +kernel
theorem d_Desk_value_9 : decode c_Desk_value 9 = .ok (.ldc 167, 2) := by decide +kernel
theorem d_Desk_value_11 : decode c_Desk_value 11 = .ok (.invokespecial 76, 3) := by decide +kernel
theorem d_Desk_value_14 : decode c_Desk_value 14 = .ok (.athrow, 1) := by decide +kernel
theorem d_Desk_value_15 : decode c_Desk_value 15 = .ok (.iload_n 3, 1) := by decide +kernel
theorem d_Desk_value_16 : decode c_Desk_value 16 = .ok (.i2l, 1) := by decide +kernel
theorem d_Desk_value_17 : decode c_Desk_value 17 = .ok (.lstore 4, 2) := by decide +kernel
theorem d_Desk_value_19 : decode c_Desk_value 19 = .ok (.lload_n 1, 1) := by decide +kernel
theorem d_Desk_value_20 : decode c_Desk_value 20 = .ok (.lload 4, 2) := by decide +kernel
theorem d_Desk_value_22 : decode c_Desk_value 22 = .ok (.invokestatic 169, 3) := by decide +kernel
theorem d_Desk_value_25 : decode c_Desk_value 25 = .ok (.lstore 6, 2) := by decide +kernel
theorem d_Desk_value_27 : decode c_Desk_value 27 = .ok (.lconst 0, 1) := by decide +kernel
theorem d_Desk_value_28 : decode c_Desk_value 28 = .ok (.lstore 8, 2) := by decide +kernel
theorem d_Desk_value_30 : decode c_Desk_value 30 = .ok (.aload_n 0, 1) := by decide +kernel
theorem d_Desk_value_31 : decode c_Desk_value 31 = .ok (.getfield 20, 3) := by decide +kernel
theorem d_Desk_value_34 : decode c_Desk_value 34 = .ok (.getfield 84, 3) := by decide +kernel
theorem d_Desk_value_37 : decode c_Desk_value 37 = .ok (.istore 10, 2) := by decide +kernel
theorem d_Desk_value_39 : decode c_Desk_value 39 = .ok (.iload 10, 2) := by decide +kernel
theorem d_Desk_value_41 : decode c_Desk_value 41 = .ok (.ifCond .lt 32, 3) := by decide +kernel
theorem d_Desk_value_44 : decode c_Desk_value 44 = .ok (.lload 8, 2) := by decide +kernel
theorem d_Desk_value_46 : decode c_Desk_value 46 = .ok (.lload 6, 2) := by decide +kernel
theorem d_Desk_value_48 : decode c_Desk_value 48 = .ok (.lmul, 1) := by decide +kernel
theorem d_Desk_value_49 : decode c_Desk_value 49 = .ok (.aload_n 0, 1) := by decide +kernel
theorem d_Desk_value_50 : decode c_Desk_value 50 = .ok (.getfield 20, 3) := by decide +kernel
theorem d_Desk_value_53 : decode c_Desk_value 53 = .ok (.getfield 101, 3) := by decide +kernel
theorem d_Desk_value_56 : decode c_Desk_value 56 = .ok (.iload 10, 2) := by decide +kernel
theorem d_Desk_value_58 : decode c_Desk_value 58 = .ok (.laload, 1) := by decide +kernel
theorem d_Desk_value_59 : decode c_Desk_value 59 = .ok (.ladd, 1) := by decide +kernel
theorem d_Desk_value_60 : decode c_Desk_value 60 = .ok (.lload 4, 2) := by decide +kernel
theorem d_Desk_value_62 : decode c_Desk_value 62 = .ok (.invokestatic 169, 3) := by decide +kernel
theorem d_Desk_value_65 : decode c_Desk_value 65 = .ok (.lstore 8, 2) := by decide +kernel
theorem d_Desk_value_67 : decode c_Desk_value 67 = .ok (.iinc 10 (-1), 3) := by decide +kernel
theorem d_Desk_value_70 : decode c_Desk_value 70 = .ok (.goto (-31), 3) := by decide +kernel
theorem d_Desk_value_73 : decode c_Desk_value 73 = .ok (.lload 8, 2) := by decide +kernel
theorem d_Desk_value_75 : decode c_Desk_value 75 = .ok (.lreturn, 1) := by decide +kernel
theorem g_362 : jG (Jvm.Cond.methodLink "FactorDesk" (112 : Nat) ({ cls := "FactorDesk$Splitter", name := "split", desc := "(LFactorDesk$Poly;)V" } : Jvm.MethodName)) := jG_of 427 (by decide +kernel) (by decide +kernel)
theorem g_365 : jG (Jvm.Cond.code ({ cls := "FactorDesk$Splitter", name := "split", desc := "(LFactorDesk$Poly;)V" } : Jvm.MethodName) prog_9_method_3_code (3 : Nat) (Option.none : Option Jvm.ClassFile.FieldType)) := jG_of 430 (by decide +kernel) (by decide +kernel)
theorem g_363 : jG (Jvm.Cond.instanceMethod ({ cls := "FactorDesk$Splitter", name := "split", desc := "(LFactorDesk$Poly;)V" } : Jvm.MethodName)) := jG_of 428 (by decide +kernel) (by decide +kernel)
theorem g_364 : jG (Jvm.Cond.selects "FactorDesk$Splitter" ({ cls := "FactorDesk$Splitter", name := "split", desc := "(LFactorDesk$Poly;)V" } : Jvm.MethodName) ({ cls := "FactorDesk$Splitter", name := "split", desc := "(LFactorDesk$Poly;)V" } : Jvm.MethodName)) := jG_of 429 (by decide +kernel) (by decide +kernel)
theorem g_274 : jG (Jvm.Cond.fieldLink "FactorDesk" (115 : Nat) "FactorDesk$Splitter" "found" "LFactorDesk$FactorList;") := jG_of 339 (by decide +kernel) (by decide +kernel)
theorem g_624 : jG (Jvm.Cond.methodLink "FactorDesk" (118 : Nat) ({ cls := "FactorDesk$FactorList", name := "copyFrom", desc := "(LFactorDesk$FactorList;)V" } : Jvm.MethodName)) := jG_of 689 (by decide +kernel) (by decide +kernel)
theorem g_627 : jG (Jvm.Cond.code ({ cls := "FactorDesk$FactorList", name := "copyFrom", desc := "(LFactorDesk$FactorList;)V" } : Jvm.MethodName) prog_4_method_2_code (3 : Nat) (Option.none : Option Jvm.ClassFile.FieldType)) := jG_of 692 (by decide +kernel) (by decide +kernel)
theorem g_625 : jG (Jvm.Cond.instanceMethod ({ cls := "FactorDesk$FactorList", name := "copyFrom", desc := "(LFactorDesk$FactorList;)V" } : Jvm.MethodName)) := jG_of 690 (by decide +kernel) (by decide +kernel)
theorem g_626 : jG (Jvm.Cond.selects "FactorDesk$FactorList" ({ cls := "FactorDesk$FactorList", name := "copyFrom", desc := "(LFactorDesk$FactorList;)V" } : Jvm.MethodName) ({ cls := "FactorDesk$FactorList", name := "copyFrom", desc := "(LFactorDesk$FactorList;)V" } : Jvm.MethodName)) := jG_of 691 (by decide +kernel) (by decide +kernel)
theorem g_632 : jG (Jvm.Cond.methodLink "FactorDesk" (138 : Nat) ({ cls := "FactorDesk", name := "content", desc := "()J" } : Jvm.MethodName)) := jG_of 697 (by decide +kernel) (by decide +kernel)
theorem g_346 : jG (Jvm.Cond.code ({ cls := "FactorDesk", name := "content", desc := "()J" } : Jvm.MethodName) prog_1_method_8_code (3 : Nat) (Option.some Jvm.ClassFile.FieldType.long)) := jG_of 411 (by decide +kernel) (by decide +kernel)
theorem g_344 : jG (Jvm.Cond.instanceMethod ({ cls := "FactorDesk", name := "content", desc := "()J" } : Jvm.MethodName)) := jG_of 409 (by decide +kernel) (by decide +kernel)
theorem g_345 : jG (Jvm.Cond.selects "FactorDesk" ({ cls := "FactorDesk", name := "content", desc := "()J" } : Jvm.MethodName) ({ cls := "FactorDesk", name := "content", desc := "()J" } : Jvm.MethodName)) := jG_of 410 (by decide +kernel) (by decide +kernel)
theorem g_811 : jG (Jvm.Cond.methodLink "FactorDesk" (143 : Nat) ({ cls := "FactorDesk$FactorList", name := "countOfDegree", desc := "(I)I" } : Jvm.MethodName)) := jG_of 876 (by decide +kernel) (by decide +kernel)
theorem g_814 : jG (Jvm.Cond.code ({ cls := "FactorDesk$FactorList", name := "countOfDegree", desc := "(I)I" } : Jvm.MethodName) prog_4_method_4_code (4 : Nat) (Option.some Jvm.ClassFile.FieldType.int)) := jG_of 879 (by decide +kernel) (by decide +kernel)
theorem g_812 : jG (Jvm.Cond.instanceMethod ({ cls := "FactorDesk$FactorList", name := "countOfDegree", desc := "(I)I" } : Jvm.MethodName)) := jG_of 877 (by decide +kernel) (by decide +kernel)
theorem g_813 : jG (Jvm.Cond.selects "FactorDesk$FactorList" ({ cls := "FactorDesk$FactorList", name := "countOfDegree", desc := "(I)I" } : Jvm.MethodName) ({ cls := "FactorDesk$FactorList", name := "countOfDegree", desc := "(I)I" } : Jvm.MethodName)) := jG_of 878 (by decide +kernel) (by decide +kernel)
theorem g_848 : jG (Jvm.Cond.methodLink "FactorDesk" (169 : Nat) ({ cls := "java/lang/Math", name := "floorMod", desc := "(JJ)J" } : Jvm.MethodName)) := jG_of 913 (by decide +kernel) (by decide +kernel)
theorem g_416 : jG (Jvm.Cond.code ({ cls := "java/lang/Math", name := "floorMod", desc := "(JJ)J" } : Jvm.MethodName) prog_15_method_52_code (6 : Nat) (Option.some Jvm.ClassFile.FieldType.long)) := jG_of 481 (by decide +kernel) (by decide +kernel)
theorem g_17 : jG (Jvm.Cond.initialized "java/lang/Math") := jG_of 82 (by decide +kernel) (by decide +kernel)
theorem g_415 : jG (Jvm.Cond.static ({ cls := "java/lang/Math", name := "floorMod", desc := "(JJ)J" } : Jvm.MethodName)) := jG_of 480 (by decide +kernel) (by decide +kernel)
set_option maxHeartbeats 4000000 in
set_option maxRecDepth 100000 in
theorem k_flCopy (l : Launch) {b : Nat} {D : va_G} {Y : Nat → ClassId} {s0 : State} (Z : jS0 b D Y s0) (a f n : Nat) (v0 v1 v2 v3 : Value) (h : jH) (hne : a ≠ f) (H0 : h a = some (.inr (1, [v0, v1, .int 0]))) (H1 : h f = some (.inr (1, [v2, v3, .int 0]))) : jMet l D s0 y_FList_copyFrom c_FList_copyFrom 3 none 1 [.ref a, .ref f] h n 0 0 (fun r h2 n2 => r = none ∧ n = n2 ∧ h2 a = some (.inr (1, [v0, v1, .int 0])) ∧ ∀ x, x ≠ a → h2 x = h x) := by
  refine jMet_of Z (by decide) (Nat.le_of_ble_eq_true rfl) ?_
  intro p e s m below meth c
  refine j_aload_n d_FList_copyFrom_0 0 rfl ?_
  refine j_aload_n d_FList_copyFrom_1 1 rfl ?_
  refine j_get iw_FList (ci := 1) (kf := 2) rfl (by decide) g_76 d_FList_copyFrom_2 H1 rfl ?_
  refine j_put iw_FList t_FList t_FList_ok n_FList (ci := 1) (kf := 2) rfl (by decide) g_76 rfl (t_FList_ok 2 (by decide)) rfl rfl d_FList_copyFrom_5 H0 (Nat.le_of_ble_eq_true rfl) ?_
  refine j_iconst d_FList_copyFrom_8 (v := 0) (by decide) ?_
  refine j_istore_n d_FList_copyFrom_9 (Nat.le_of_ble_eq_true rfl) rfl ?_
  refine j_iload_n d_FList_copyFrom_10 0 rfl ?_
  refine j_aload_n d_FList_copyFrom_11 1 rfl ?_
  refine j_get iw_FList (ci := 1) (kf := 2) rfl (by decide) g_76 d_FList_copyFrom_12 (jh_up_s _ _ _) rfl ?_
  refine j_icmp_ge_t (tgt := 51) d_FList_copyFrom_15 (by decide) (by decide) ?_
  exact j_vret rfl d_FList_copyFrom_51 ⟨rfl, rfl, (jh_up_s _ _ _), fun x h1 => (jh_up_n _ _ (by omega))⟩
set_option maxHeartbeats 4000000 in
set_option maxRecDepth 100000 in
theorem k_ofDeg0 (l : Launch) {b : Nat} {D : va_G} {Y : Nat → ClassId} {s0 : State} (Z : jS0 b D Y s0) (f n : Nat) (x0 : Int32) (v2 v3 : Value) (h : jH) (H1 : h f = some (.inr (1, [v2, v3, .int 0]))) : jMet l D s0 y_FList_countOfDegree c_FList_countOfDegree 4 (some .int) 1 [.ref f, .int x0] h n 0 0 (fun r h2 n2 => r = some (.int 0) ∧ h = h2 ∧ n = n2) := by
  refine jMet_of Z (by decide) (Nat.le_of_ble_eq_true rfl) ?_
  intro p e s m below meth c
  refine j_iconst d_FList_countOfDegree_0 (v := 0) (by decide) ?_
  refine j_istore_n d_FList_countOfDegree_1 (Nat.le_of_ble_eq_true rfl) rfl ?_
  refine j_iconst d_FList_countOfDegree_2 (v := 0) (by decide) ?_
  refine j_istore_n d_FList_countOfDegree_3 (Nat.le_of_ble_eq_true rfl) rfl ?_
  refine j_iload_n d_FList_countOfDegree_4 0 rfl ?_
  refine j_aload_n d_FList_countOfDegree_5 2 rfl ?_
  refine j_get iw_FList (ci := 1) (kf := 2) rfl (by decide) g_76 d_FList_countOfDegree_6 H1 rfl ?_
  refine j_icmp_ge_t (tgt := 40) d_FList_countOfDegree_9 (by decide) (by decide) ?_
  refine j_iload_n d_FList_countOfDegree_40 1 rfl ?_
  exact j_iret rfl d_FList_countOfDegree_41 ⟨rfl, rfl, rfl⟩
set_option maxHeartbeats 4000000 in
set_option maxRecDepth 100000 in
theorem k_factors (l : Launch) {b : Nat} {D : va_G} {Y : Nat → ClassId} {s0 : State} (Z : jS0 b D Y s0) (d n : Nat) (h : jH) (HD : jDesk Y h d) : jMet l D s0 y_Desk_factors c_Desk_factors 1 (some .int) 6 [.ref d] h n 0 0 (fun r h2 n2 => r = some (.int 0) ∧ n = n2 ∧ ∀ x, (x < d ∨ d + 208 ≤ x) → h2 x = h x) := by
  refine jMet_of Z (by decide) (Nat.le_of_ble_eq_true rfl) ?_
  intro p e s m below meth c
  obtain ⟨D0, D1, D2, D3, D8, D9, D10, D37, D38, D202, D203⟩ := HD
  refine j_aload_n d_Desk_factors_0 0 rfl ?_
  refine j_get iw_Desk (ci := 8) (kf := 7) rfl (by decide) g_311 d_Desk_factors_1 D0 rfl ?_
  refine j_aload_n d_Desk_factors_4 0 rfl ?_
  refine j_get iw_Desk (ci := 8) (kf := 2) rfl (by decide) g_306 d_Desk_factors_5 D0 rfl ?_
  refine j_callV (k_split l Z d _ _ ⟨D0, D1, D2, D3, D8, D9, D10, D37, D38, D202, D203⟩) ⟨⟨Nat.le_of_ble_eq_true rfl, Nat.le_of_ble_eq_true rfl⟩, g_362, g_365, g_4, (by decide +kernel), (by decide +kernel), (show _ = some 1 from by decide +kernel)⟩ g_363 g_364 (ci := 7) rfl D37 ⟨(by first | exact Nat.le_of_ble_eq_true rfl | (simp only [jrm]; omega)), (by first | exact Nat.le_of_ble_eq_true rfl | (simp only [jrm]; omega))⟩ (Nat.le_of_ble_eq_true rfl) d_Desk_factors_8 (fun r0 h0 n0 P0 => ?_)
  obtain ⟨rfl, rfl, O0, A0, F0⟩ := P0
  have S0_0 := (F0 d (by omega) (by omega) (by omega) (by omega)).trans D0
  have S0_1 := (F0 (d + 1) (by omega) (by omega) (by omega) (by omega)).trans D1
  have S0_2 := (F0 (d + 2) (by omega) (by omega) (by omega) (by omega)).trans D2
  have S0_3 := (F0 (d + 3) (by omega) (by omega) (by omega) (by omega)).trans D3
  have S0_8 := (F0 (d + 8) (by omega) (by omega) (by omega) (by omega)).trans D8
  have S0_9 := (F0 (d + 9) (by omega) (by omega) (by omega) (by omega)).trans D9
  have S0_10 := (F0 (d + 10) (by omega) (by omega) (by omega) (by omega)).trans D10
  refine j_aload_n d_Desk_factors_11 0 rfl ?_
  refine j_get iw_Desk (ci := 8) (kf := 6) rfl (by decide) g_310 d_Desk_factors_12 S0_0 rfl ?_
  refine j_aload_n d_Desk_factors_15 0 rfl ?_
  refine j_get iw_Desk (ci := 8) (kf := 7) rfl (by decide) g_311 d_Desk_factors_16 S0_0 rfl ?_
  refine j_get iw_Splt (ci := 7) (kf := 0) rfl (by decide) g_274 d_Desk_factors_19 O0 rfl ?_
  refine j_callV (k_flCopy l Z (d + 10) (d + 38) _ _ _ _ _ _ (by omega) S0_10 A0) ⟨⟨Nat.le_of_ble_eq_true rfl, Nat.le_of_ble_eq_true rfl⟩, g_624, g_627, g_3, (by decide +kernel), (by decide +kernel), (show _ = some 1 from by decide +kernel)⟩ g_625 g_626 (ci := 1) rfl S0_10 ⟨(by first | exact Nat.le_of_ble_eq_true rfl | (simp only [jrm]; omega)), (by first | exact Nat.le_of_ble_eq_true rfl | (simp only [jrm]; omega))⟩ (Nat.le_of_ble_eq_true rfl) d_Desk_factors_22 (fun r1 h1 n1 P1 => ?_)
  obtain ⟨rfl, rfl, O1, F1⟩ := P1
  have U0 := (F1 d (by omega)).trans S0_0
  refine j_aload_n d_Desk_factors_25 0 rfl ?_
  refine j_get iw_Desk (ci := 8) (kf := 6) rfl (by decide) g_310 d_Desk_factors_26 U0 rfl ?_
  refine j_get iw_FList (ci := 1) (kf := 2) rfl (by decide) g_78 d_Desk_factors_29 O1 rfl ?_
  refine j_iret rfl d_Desk_factors_32 ⟨rfl, rfl, fun x hx => ?_⟩
  exact ((F1 x (by omega)).trans (F0 x (by omega) (by omega) (by omega) (by omega)))
set_option maxHeartbeats 4000000 in
set_option maxRecDepth 100000 in
theorem k_isIrr (l : Launch) {b : Nat} {D : va_G} {Y : Nat → ClassId} {s0 : State} (Z : jS0 b D Y s0) (d n : Nat) (h : jH) (HD : jDesk Y h d) : jMet l D s0 y_Desk_isIrreducible c_Desk_isIrreducible 1 (some .boolean) 6 [.ref d] h n 0 0 (fun r h2 n2 => r = some (.int 0) ∧ n = n2 ∧ ∀ x, (x < d ∨ d + 208 ≤ x) → h2 x = h x) := by
  refine jMet_of Z (by decide) (Nat.le_of_ble_eq_true rfl) ?_
  intro p e s m below meth c
  obtain ⟨D0, D1, D2, D3, D8, D9, D10, D37, D38, D202, D203⟩ := HD
  refine j_aload_n d_Desk_isIrreducible_0 0 rfl ?_
  refine j_callV (k_content l Z d _ _ ⟨D0, D1, D2, D3, D8, D9, D10, D37, D38, D202, D203⟩) ⟨⟨Nat.le_of_ble_eq_true rfl, Nat.le_of_ble_eq_true rfl⟩, g_632, g_346, g_1, by decide +kernel⟩ g_344 g_345 (ci := 8) rfl D0 ⟨(by first | exact Nat.le_of_ble_eq_true rfl | (simp only [jrm]; omega)), (by first | exact Nat.le_of_ble_eq_true rfl | (simp only [jrm]; omega))⟩ (Nat.le_of_ble_eq_true rfl) d_Desk_isIrreducible_1 (fun r1 h1 n1 P1 => ?_)
  obtain ⟨rfl, rfl, rfl⟩ := P1
  refine j_lconst d_Desk_isIrreducible_4 (v := 1) (by decide) ?_
  refine j_lcmp d_Desk_isIrreducible_5 ?_
  refine j_if_eq_t (tgt := 11) d_Desk_isIrreducible_6 (by decide) (by decide) ?_
  refine j_aload_n d_Desk_isIrreducible_11 0 rfl ?_
  refine j_get iw_Desk (ci := 8) (kf := 7) rfl (by decide) g_311 d_Desk_isIrreducible_12 D0 rfl ?_
  refine j_aload_n d_Desk_isIrreducible_15 0 rfl ?_
  refine j_get iw_Desk (ci := 8) (kf := 2) rfl (by decide) g_306 d_Desk_isIrreducible_16 D0 rfl ?_
  refine j_callV (k_split l Z d _ _ ⟨D0, D1, D2, D3, D8, D9, D10, D37, D38, D202, D203⟩) ⟨⟨Nat.le_of_ble_eq_true rfl, Nat.le_of_ble_eq_true rfl⟩, g_362, g_365, g_4, (by decide +kernel), (by decide +kernel), (show _ = some 1 from by decide +kernel)⟩ g_363 g_364 (ci := 7) rfl D37 ⟨(by first | exact Nat.le_of_ble_eq_true rfl | (simp only [jrm]; omega)), (by first | exact Nat.le_of_ble_eq_true rfl | (simp only [jrm]; omega))⟩ (Nat.le_of_ble_eq_true rfl) d_Desk_isIrreducible_19 (fun r0 h0 n0 P0 => ?_)
  obtain ⟨rfl, rfl, O0, A0, F0⟩ := P0
  have S0_0 := (F0 d (by omega) (by omega) (by omega) (by omega)).trans D0
  have S0_1 := (F0 (d + 1) (by omega) (by omega) (by omega) (by omega)).trans D1
  have S0_2 := (F0 (d + 2) (by omega) (by omega) (by omega) (by omega)).trans D2
  have S0_3 := (F0 (d + 3) (by omega) (by omega) (by omega) (by omega)).trans D3
  have S0_8 := (F0 (d + 8) (by omega) (by omega) (by omega) (by omega)).trans D8
  have S0_9 := (F0 (d + 9) (by omega) (by omega) (by omega) (by omega)).trans D9
  have S0_10 := (F0 (d + 10) (by omega) (by omega) (by omega) (by omega)).trans D10
  refine j_aload_n d_Desk_isIrreducible_22 0 rfl ?_
  refine j_get iw_Desk (ci := 8) (kf := 7) rfl (by decide) g_311 d_Desk_isIrreducible_23 S0_0 rfl ?_
  refine j_get iw_Splt (ci := 7) (kf := 0) rfl (by decide) g_274 d_Desk_isIrreducible_26 O0 rfl ?_
  refine j_get iw_FList (ci := 1) (kf := 2) rfl (by decide) g_78 d_Desk_isIrreducible_29 A0 rfl ?_
  refine j_iconst d_Desk_isIrreducible_32 (v := 1) (by decide) ?_
  refine j_icmp_ne_t (tgt := 56) d_Desk_isIrreducible_33 (by decide) (by decide) ?_
  refine j_iconst d_Desk_isIrreducible_56 (v := 0) (by decide) ?_
  refine j_zret rfl (by decide) d_Desk_isIrreducible_57 ⟨rfl, rfl, fun x hx => ?_⟩
  exact (F0 x (by omega) (by omega) (by omega) (by omega))
set_option maxHeartbeats 4000000 in
set_option maxRecDepth 100000 in
theorem k_ofDegree (l : Launch) {b : Nat} {D : va_G} {Y : Nat → ClassId} {s0 : State} (Z : jS0 b D Y s0) (d n : Nat) (h : jH) (HD : jDesk Y h d) (x0 : Int32) (h1 : ¬ x0 < 1) (h2 : x0 ≤ 12) : jMet l D s0 y_Desk_ofDegree c_Desk_ofDegree 2 (some .int) 6 [.ref d, .int x0] h n 0 0 (fun r h2 n2 => r = some (.int 0) ∧ n = n2 ∧ ∀ x, (x < d ∨ d + 208 ≤ x) → h2 x = h x) := by
  refine jMet_of Z (by decide) (Nat.le_of_ble_eq_true rfl) ?_
  intro p e s m below meth c
  obtain ⟨D0, D1, D2, D3, D8, D9, D10, D37, D38, D202, D203⟩ := HD
  refine j_iload_n d_Desk_ofDegree_0 1 rfl ?_
  refine j_iconst d_Desk_ofDegree_1 (v := 1) (by decide) ?_
  refine j_icmp_lt_f (tgt := 11) d_Desk_ofDegree_2 (by decide) h1 ?_
  refine j_iload_n d_Desk_ofDegree_5 1 rfl ?_
  refine j_bipush d_Desk_ofDegree_6 (v := 12) (by decide) ?_
  refine j_icmp_le_t (tgt := 21) d_Desk_ofDegree_8 (by decide) h2 ?_
  refine j_aload_n d_Desk_ofDegree_21 0 rfl ?_
  refine j_get iw_Desk (ci := 8) (kf := 7) rfl (by decide) g_311 d_Desk_ofDegree_22 D0 rfl ?_
  refine j_aload_n d_Desk_ofDegree_25 0 rfl ?_
  refine j_get iw_Desk (ci := 8) (kf := 2) rfl (by decide) g_306 d_Desk_ofDegree_26 D0 rfl ?_
  refine j_callV (k_split l Z d _ _ ⟨D0, D1, D2, D3, D8, D9, D10, D37, D38, D202, D203⟩) ⟨⟨Nat.le_of_ble_eq_true rfl, Nat.le_of_ble_eq_true rfl⟩, g_362, g_365, g_4, (by decide +kernel), (by decide +kernel), (show _ = some 1 from by decide +kernel)⟩ g_363 g_364 (ci := 7) rfl D37 ⟨(by first | exact Nat.le_of_ble_eq_true rfl | (simp only [jrm]; omega)), (by first | exact Nat.le_of_ble_eq_true rfl | (simp only [jrm]; omega))⟩ (Nat.le_of_ble_eq_true rfl) d_Desk_ofDegree_29 (fun r0 h0 n0 P0 => ?_)
  obtain ⟨rfl, rfl, O0, A0, F0⟩ := P0
  have S0_0 := (F0 d (by omega) (by omega) (by omega) (by omega)).trans D0
  have S0_1 := (F0 (d + 1) (by omega) (by omega) (by omega) (by omega)).trans D1
  have S0_2 := (F0 (d + 2) (by omega) (by omega) (by omega) (by omega)).trans D2
  have S0_3 := (F0 (d + 3) (by omega) (by omega) (by omega) (by omega)).trans D3
  have S0_8 := (F0 (d + 8) (by omega) (by omega) (by omega) (by omega)).trans D8
  have S0_9 := (F0 (d + 9) (by omega) (by omega) (by omega) (by omega)).trans D9
  have S0_10 := (F0 (d + 10) (by omega) (by omega) (by omega) (by omega)).trans D10
  refine j_aload_n d_Desk_ofDegree_32 0 rfl ?_
  refine j_get iw_Desk (ci := 8) (kf := 7) rfl (by decide) g_311 d_Desk_ofDegree_33 S0_0 rfl ?_
  refine j_get iw_Splt (ci := 7) (kf := 0) rfl (by decide) g_274 d_Desk_ofDegree_36 O0 rfl ?_
  refine j_iload_n d_Desk_ofDegree_39 1 rfl ?_
  refine j_callV (k_ofDeg0 l Z (d + 38) _ x0 _ _ _ A0) ⟨⟨Nat.le_of_ble_eq_true rfl, Nat.le_of_ble_eq_true rfl⟩, g_811, g_814, g_3, (by decide +kernel), (by decide +kernel), (show _ = some 1 from by decide +kernel)⟩ g_812 g_813 (ci := 1) rfl A0 ⟨(by first | exact Nat.le_of_ble_eq_true rfl | (simp only [jrm]; omega)), (by first | exact Nat.le_of_ble_eq_true rfl | (simp only [jrm]; omega))⟩ (Nat.le_of_ble_eq_true rfl) d_Desk_ofDegree_40 (fun r1 h1 n1 P1 => ?_)
  obtain ⟨rfl, rfl, rfl⟩ := P1
  refine j_iret rfl d_Desk_ofDegree_43 ⟨rfl, rfl, fun x hx => ?_⟩
  exact (F0 x (by omega) (by omega) (by omega) (by omega))
set_option maxHeartbeats 4000000 in
set_option maxRecDepth 100000 in
theorem x_ofDegree (l : Launch) {b : Nat} {D : va_G} {Y : Nat → ClassId} {s0 : State} (Z : jS0 b D Y s0) (hlt : l.stackTraces = false) (d n : Nat) (h : jH) (HD : jDesk Y h d) (x0 : Int32) (h1 : x0 < 1 ∨ ¬ x0 ≤ 12) : jMetX l D s0 y_Desk_ofDegree c_Desk_ofDegree 2 (some .int) 6 [.ref d, .int x0] h n 1 6 "java/lang/IllegalArgumentException" (fun h2 n2 => h2 = h ∧ n2 = n + 1) := by
  refine jMetX_of Z (by decide) (Nat.le_of_ble_eq_true rfl) ?_
  intro p e s m below meth c hnl
  obtain ⟨D0, D1, D2, D3, D8, D9, D10, D37, D38, D202, D203⟩ := HD
  by_cases h0 : x0 < 1
  · refine j_iload_n d_Desk_ofDegree_0 1 rfl ?_
    refine j_iconst d_Desk_ofDegree_1 (v := 1) (by decide) ?_
    refine j_icmp_lt_t (tgt := 11) d_Desk_ofDegree_2 (by decide) h0 ?_
    exact j_throwS hlt hnl hat_IAE hca_IAE hdc_IAE (by decide +kernel) jNm_fit g_721 g_722 g_15 hsr_141 hsx_141 d_Desk_ofDegree_11 d_Desk_ofDegree_14 d_Desk_ofDegree_15 d_Desk_ofDegree_17 d_Desk_ofDegree_20 (Nat.le_of_ble_eq_true rfl) (Nat.le_of_ble_eq_true rfl) (Nat.le_of_ble_eq_true rfl) (Nat.le_of_ble_eq_true rfl) ⟨rfl, rfl⟩
  · refine j_iload_n d_Desk_ofDegree_0 1 rfl ?_
    refine j_iconst d_Desk_ofDegree_1 (v := 1) (by decide) ?_
    refine j_icmp_lt_f (tgt := 11) d_Desk_ofDegree_2 (by decide) h0 ?_
    refine j_iload_n d_Desk_ofDegree_5 1 rfl ?_
    refine j_bipush d_Desk_ofDegree_6 (v := 12) (by decide) ?_
    refine j_icmp_le_f (tgt := 21) d_Desk_ofDegree_8 (by decide) (h1.resolve_left h0) ?_
    exact j_throwS hlt hnl hat_IAE hca_IAE hdc_IAE (by decide +kernel) jNm_fit g_721 g_722 g_15 hsr_141 hsx_141 d_Desk_ofDegree_11 d_Desk_ofDegree_14 d_Desk_ofDegree_15 d_Desk_ofDegree_17 d_Desk_ofDegree_20 (Nat.le_of_ble_eq_true rfl) (Nat.le_of_ble_eq_true rfl) (Nat.le_of_ble_eq_true rfl) (Nat.le_of_ble_eq_true rfl) ⟨rfl, rfl⟩
theorem jMet_ofF {b : Nat} {D : va_G} {Y : Nat → ClassId} {s0 : State} {l : Launch} {h : jH} {n : Nat} {y : MethodName} {cy : ByteArray} {maxL fr mc ms : Nat} {rt : Option FieldType} {av : List Value} {Post : Option Value → jH → Nat → Prop} (Z : jS0 b D Y s0) (hy : plainFor y = true) (hlen : (lg_sl av).length ≤ maxL)
    (body : ∀ (p : Program) (e : Env) (s : State) (m : MethodId) (below : List Frame) (meth : Method) (c : Code), jW b D Y s0 p l e (jrm fr mc ms) s m av.toArray below meth c y.cls cy maxL rt y.name (MQ below (jPost D s0 Post) av.toArray s mc ms (jA s0)) 0 (lv_args 0 av) [] h n 0 0) : jMet l D s0 y cy maxL rt fr av h n mc ms Post := by
  unfold jMet Met
  refine MetFree.of_bodySF (code := cy) (maxLocals := maxL) (ret := rt) hy ?_ ?_
  · intro args s m h9 hn
    obtain ⟨meth, c, h1, h2, h3, h4, h5, h6, -, -⟩ := Cond.code_spec hn (atoms_spec (ws := [Cond.code y cy maxL rt]) h9 _ List.mem_cons_self)
    exact ⟨meth, c, h1, h2, h3, h4, h5, h6⟩
  · intro p e s m args below meth c s₁ B hml hP _
    obtain ⟨rfl, hV, hR⟩ := hP
    have hh0 : s₁.heap = s.heap := by rw [B.state]; rfl
    have K := body p e s m below meth c ⟨B.exec, B.bytes, hml, B.returns, findClass_of_methodNamed B.named, B.notSynchronized, (name_of_methodNamed B.named B.method).1, Z, hV⟩ s.heap [] _ hR va_S.rf (lv_entry av hlen)
    rw [← lg_entry_eq] at K
    obtain ⟨t, a1, o, b1, b2, b3⟩ := K s₁ hh0 (Stand.of_body B)
    exact ⟨t, o, a1, b1, b2, ⟨b3.1, b3.2⟩⟩
def jr1 (x y : Int64) : Int64 := x - x / y * y
def jfm (x y : Int64) : Int64 := if 0 ≤ lg_cmp (x ^^^ y) 0 then jr1 x y else if lg_cmp (jr1 x y) 0 = 0 then jr1 x y else jr1 x y + y
set_option maxHeartbeats 4000000 in
set_option maxRecDepth 100000 in
theorem k_floorMod (l : Launch) {b : Nat} {D : va_G} {Y : Nat → ClassId} {s0 : State} (Z : jS0 b D Y s0) (n : Nat) (x y : Int64) (h : jH) (hy : ¬ y = 0) : jMet l D s0 y_Math_floorMod c_Math_floorMod 6 (some .long) 1 [.long x, .long y] h n 0 0 (fun r h2 n2 => r = some (.long (jfm x y)) ∧ h = h2 ∧ n = n2) := by
  refine jMet_ofF Z (by decide +kernel) (Nat.le_of_ble_eq_true rfl) ?_
  intro p e s m below meth c
  refine j_lload_n d_Math_floorMod_0 0 rfl ?_
  refine j_lload_n d_Math_floorMod_1 1 rfl ?_
  refine j_lrem d_Math_floorMod_2 hy ?_
  refine j_lstore d_Math_floorMod_3 (Nat.le_of_ble_eq_true rfl) rfl ?_
  refine j_lload_n d_Math_floorMod_5 1 rfl ?_
  refine j_lload_n d_Math_floorMod_6 2 rfl ?_
  refine j_lxor d_Math_floorMod_7 ?_
  refine j_lconst d_Math_floorMod_8 (v := 0) (by decide) ?_
  refine j_lcmp d_Math_floorMod_9 ?_
  by_cases g0 : 0 ≤ lg_cmp (x ^^^ y) 0
  · refine j_if_ge_t (tgt := 25) d_Math_floorMod_10 (by decide) g0 ?_
    refine j_lload d_Math_floorMod_25 0 rfl ?_
    exact j_lret rfl d_Math_floorMod_27 ⟨congrArg (fun z => some (Value.long z)) (show _ = jfm x y from (if_pos g0).symm), rfl, rfl⟩
  by_cases g1 : lg_cmp (jr1 x y) 0 = 0
  · refine j_if_ge_f (tgt := 25) d_Math_floorMod_10 (by decide) g0 ?_
    refine j_lload d_Math_floorMod_13 0 rfl ?_
    refine j_lconst d_Math_floorMod_15 (v := 0) (by decide) ?_
    refine j_lcmp d_Math_floorMod_16 ?_
    refine j_if_eq_t (tgt := 25) d_Math_floorMod_17 (by decide) g1 ?_
    refine j_lload d_Math_floorMod_25 0 rfl ?_
    exact j_lret rfl d_Math_floorMod_27 ⟨congrArg (fun z => some (Value.long z)) (show _ = jfm x y from ((if_neg g0).trans (if_pos g1)).symm), rfl, rfl⟩
  · refine j_if_ge_f (tgt := 25) d_Math_floorMod_10 (by decide) g0 ?_
    refine j_lload d_Math_floorMod_13 0 rfl ?_
    refine j_lconst d_Math_floorMod_15 (v := 0) (by decide) ?_
    refine j_lcmp d_Math_floorMod_16 ?_
    refine j_if_eq_f (tgt := 25) d_Math_floorMod_17 (by decide) g1 ?_
    refine j_lload d_Math_floorMod_20 0 rfl ?_
    refine j_lload_n d_Math_floorMod_22 2 rfl ?_
    refine j_ladd d_Math_floorMod_23 ?_
    exact j_lret rfl d_Math_floorMod_24 ⟨congrArg (fun z => some (Value.long z)) (show _ = jfm x y from ((if_neg g0).trans (if_neg g1)).symm), rfl, rfl⟩
set_option maxHeartbeats 4000000 in
set_option maxRecDepth 100000 in
theorem k_value (l : Launch) {b : Nat} {D : va_G} {Y : Nat → ClassId} {s0 : State} (Z : jS0 b D Y s0) (d n : Nat) (h : jH) (HD : jDesk Y h d) (x0 : Int64) (m0 : Int32) (h1 : 1 ≤ m0) (hm : ¬ m0.toInt64 = 0) : jMet l D s0 y_Desk_value c_Desk_value 11 (some .long) 6 [.ref d, .long x0, .int m0] h n 0 0 (fun r h2 n2 => r = some (.long (jfm (0 * jfm x0 m0.toInt64 + 1) m0.toInt64)) ∧ n = n2 ∧ ∀ x, (x < d ∨ d + 208 ≤ x) → h2 x = h x) := by
  refine jMet_of Z (by decide) (Nat.le_of_ble_eq_true rfl) ?_
  intro p e s m below meth c
  obtain ⟨D0, D1, D2, D3, D8, D9, D10, D37, D38, D202, D203⟩ := HD
  refine j_iload_n d_Desk_value_0 2 rfl ?_
  refine j_iconst d_Desk_value_1 (v := 1) (by decide) ?_
  refine j_icmp_ge_t (tgt := 15) d_Desk_value_2 (by decide) h1 ?_
  refine j_iload_n d_Desk_value_15 2 rfl ?_
  refine j_i2l d_Desk_value_16 rfl ?_
  refine j_lstore d_Desk_value_17 (Nat.le_of_ble_eq_true rfl) rfl ?_
  refine j_lload_n d_Desk_value_19 2 rfl ?_
  refine j_lload d_Desk_value_20 0 rfl ?_
  refine j_callS (k_floorMod l Z _ _ _ _ hm) ⟨⟨Nat.le_of_ble_eq_true rfl, Nat.le_of_ble_eq_true rfl⟩, g_848, g_416, g_17, (by decide +kernel), (by decide +kernel), (show _ = some 2 from by decide +kernel)⟩ g_415 ⟨(by first | exact Nat.le_of_ble_eq_true rfl | (simp only [jrm]; omega)), (by first | exact Nat.le_of_ble_eq_true rfl | (simp only [jrm]; omega))⟩ (Nat.le_of_ble_eq_true rfl) d_Desk_value_22 (fun r501 h501 n501 P501 => ?_)
  obtain ⟨rfl, rfl, rfl⟩ := P501
  refine j_lstore d_Desk_value_25 (Nat.le_of_ble_eq_true rfl) rfl ?_
  refine j_lconst d_Desk_value_27 (v := 0) (by decide) ?_
  refine j_lstore d_Desk_value_28 (Nat.le_of_ble_eq_true rfl) rfl ?_
  refine j_aload_n d_Desk_value_30 3 rfl ?_
  refine j_get iw_Desk (ci := 8) (kf := 2) rfl (by decide) g_306 d_Desk_value_31 D0 rfl ?_
  refine j_get iw_Poly (ci := 0) (kf := 1) rfl (by decide) g_48 d_Desk_value_34 D2 rfl ?_
  refine j_istore d_Desk_value_37 (Nat.le_of_ble_eq_true rfl) rfl ?_
  refine j_iload d_Desk_value_39 0 rfl ?_
  refine j_if_lt_f (tgt := 73) d_Desk_value_41 (by decide) (by decide) ?_
  refine j_lload d_Desk_value_44 1 rfl ?_
  refine j_lload d_Desk_value_46 2 rfl ?_
  refine j_lmul d_Desk_value_48 ?_
  refine j_aload_n d_Desk_value_49 4 rfl ?_
  refine j_get iw_Desk (ci := 8) (kf := 2) rfl (by decide) g_306 d_Desk_value_50 D0 rfl ?_
  refine j_get iw_Poly (ci := 0) (kf := 0) rfl (by decide) g_39 d_Desk_value_53 D2 rfl ?_
  refine j_iload d_Desk_value_56 0 rfl ?_
  refine j_lald d_Desk_value_58 D3 (by unfold vp_in; decide) ?_
  refine j_ladd d_Desk_value_59 ?_
  refine j_lload d_Desk_value_60 3 rfl ?_
  refine j_callS (k_floorMod l Z _ _ _ _ hm) ⟨⟨Nat.le_of_ble_eq_true rfl, Nat.le_of_ble_eq_true rfl⟩, g_848, g_416, g_17, (by decide +kernel), (by decide +kernel), (show _ = some 2 from by decide +kernel)⟩ g_415 ⟨(by first | exact Nat.le_of_ble_eq_true rfl | (simp only [jrm]; omega)), (by first | exact Nat.le_of_ble_eq_true rfl | (simp only [jrm]; omega))⟩ (Nat.le_of_ble_eq_true rfl) d_Desk_value_62 (fun r502 h502 n502 P502 => ?_)
  obtain ⟨rfl, rfl, rfl⟩ := P502
  refine j_lstore d_Desk_value_65 (Nat.le_of_ble_eq_true rfl) rfl ?_
  refine j_iinc d_Desk_value_67 1 rfl rfl (Nat.le_of_ble_eq_true rfl) rfl ?_
  refine j_goto (tgt := 39) d_Desk_value_70 (by decide) ?_
  refine j_iload d_Desk_value_39 0 rfl ?_
  refine j_if_lt_t (tgt := 73) d_Desk_value_41 (by decide) (by decide) ?_
  refine j_lload d_Desk_value_73 1 rfl ?_
  exact j_lret rfl d_Desk_value_75 ⟨rfl, rfl, fun x hx => rfl⟩
set_option maxHeartbeats 4000000 in
set_option maxRecDepth 100000 in
theorem x_value (l : Launch) {b : Nat} {D : va_G} {Y : Nat → ClassId} {s0 : State} (Z : jS0 b D Y s0) (hlt : l.stackTraces = false) (d n : Nat) (h : jH) (HD : jDesk Y h d) (x0 : Int64) (m0 : Int32) (h1 : ¬ 1 ≤ m0) : jMetX l D s0 y_Desk_value c_Desk_value 11 (some .long) 6 [.ref d, .long x0, .int m0] h n 1 6 "java/lang/IllegalArgumentException" (fun h2 n2 => h2 = h ∧ n2 = n + 1) := by
  refine jMetX_of Z (by decide) (Nat.le_of_ble_eq_true rfl) ?_
  intro p e s m below meth c hnl
  obtain ⟨D0, D1, D2, D3, D8, D9, D10, D37, D38, D202, D203⟩ := HD
  refine j_iload_n d_Desk_value_0 2 rfl ?_
  refine j_iconst d_Desk_value_1 (v := 1) (by decide) ?_
  refine j_icmp_ge_f (tgt := 15) d_Desk_value_2 (by decide) h1 ?_
  exact j_throwS hlt hnl hat_IAE hca_IAE hdc_IAE (by decide +kernel) jNm_fit g_721 g_722 g_15 hsr_167 hsx_167 d_Desk_value_5 d_Desk_value_8 d_Desk_value_9 d_Desk_value_11 d_Desk_value_14 (Nat.le_of_ble_eq_true rfl) (Nat.le_of_ble_eq_true rfl) (Nat.le_of_ble_eq_true rfl) (Nat.le_of_ble_eq_true rfl) ⟨rfl, rfl⟩
