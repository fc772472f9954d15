abbrev c_Modl_fails : ByteArray := prog_11_method_3_code
abbrev y_Modl_fails : MethodName := ⟨"FactorDeskModel", "fails", "(ZI)Z"⟩
theorem d_Modl_fails_0 : decode c_Modl_fails 0 = .ok (.aload_n 0, 1) := by decide +kernel
theorem d_Modl_fails_1 : decode c_Modl_fails 1 = .ok (.iload_n 1, 1) := by decide +kernel
theorem d_Modl_fails_2 : decode c_Modl_fails 2 = .ok (.ifCond .eq 7, 3) := by decide +kernel
theorem d_Modl_fails_5 : decode c_Modl_fails 5 = .ok (.iload_n 2, 1) := by decide +kernel
theorem d_Modl_fails_6 : decode c_Modl_fails 6 = .ok (.goto 4, 3) := by decide +kernel
theorem d_Modl_fails_9 : decode c_Modl_fails 9 = .ok (.iconst 0, 1) := by decide +kernel
theorem d_Modl_fails_10 : decode c_Modl_fails 10 = .ok (.putfield 82, 3) := by decide +kernel
theorem d_Modl_fails_13 : decode c_Modl_fails 13 = .ok (.iload_n 1, 1) := by decide +kernel
theorem d_Modl_fails_14 : decode c_Modl_fails 14 = .ok (.ireturn, 1) := by decide +kernel
abbrev c_Modl_thrown : ByteArray := prog_11_method_2_code
abbrev y_Modl_thrown : MethodName := ⟨"FactorDeskModel", "thrown", "()I"⟩
theorem d_Modl_thrown_0 : decode c_Modl_thrown 0 = .ok (.aload_n 0, 1) := by decide +kernel
theorem d_Modl_thrown_1 : decode c_Modl_thrown 1 = .ok (.getfield 82, 3) := by decide +kernel
theorem d_Modl_thrown_4 : decode c_Modl_thrown 4 = .ok (.ireturn, 1) := by decide +kernel
abbrev c_Modl_put : ByteArray := prog_11_method_49_code
abbrev y_Modl_put : MethodName := ⟨"FactorDeskModel", "put", "(I)I"⟩
theorem d_Modl_put_0 : decode c_Modl_put 0 = .ok (.aload_n 0, 1) := by decide +kernel
theorem d_Modl_put_1 : decode c_Modl_put 1 = .ok (.aload_n 0, 1) := by decide +kernel
theorem d_Modl_put_2 : decode c_Modl_put 2 = .ok (.getfield 271, 3) := by decide +kernel
theorem d_Modl_put_5 : decode c_Modl_put 5 = .ok (.bipush 13, 2) := by decide +kernel
theorem d_Modl_put_7 : decode c_Modl_put 7 = .ok (.if_icmp .ne 7, 3) := by decide +kernel
theorem d_Modl_put_10 : decode c_Modl_put 10 = .ok (.iconst 1, 1) := by decide +kernel
theorem d_Modl_put_11 : decode c_Modl_put 11 = .ok (.goto 4, 3) := by decide +kernel
theorem d_Modl_put_14 : decode c_Modl_put 14 = .ok (.iconst 0, 1) := by decide +kernel
theorem d_Modl_put_15 : decode c_Modl_put 15 = .ok (.iconst 1, 1) := by decide +kernel
theorem d_Modl_put_16 : decode c_Modl_put 16 = .ok (.invokevirtual 274, 3) := by decide +kernel
theorem d_Modl_put_19 : decode c_Modl_put 19 = .ok (.ifCond .eq 5, 3) := by decide +kernel
theorem d_Modl_put_22 : decode c_Modl_put 22 = .ok (.iconst 0, 1) := by decide +kernel
theorem d_Modl_put_23 : decode c_Modl_put 23 = .ok (.ireturn, 1) := by decide +kernel
theorem d_Modl_put_24 : decode c_Modl_put 24 = .ok (.aload_n 0, 1) := by decide +kernel
theorem d_Modl_put_25 : decode c_Modl_put 25 = .ok (.getfield 9, 3) := by decide +kernel
theorem d_Modl_put_28 : decode c_Modl_put 28 = .ok (.aload_n 0, 1) := by decide +kernel
theorem d_Modl_put_29 : decode c_Modl_put 29 = .ok (.getfield 271, 3) := by decide +kernel
theorem d_Modl_put_32 : decode c_Modl_put 32 = .ok (.iload_n 1, 1) := by decide +kernel
theorem d_Modl_put_33 : decode c_Modl_put 33 = .ok (.i2l, 1) := by decide +kernel
theorem d_Modl_put_34 : decode c_Modl_put 34 = .ok (.lastore, 1) := by decide +kernel
theorem d_Modl_put_35 : decode c_Modl_put 35 = .ok (.aload_n 0, 1) := by decide +kernel
theorem d_Modl_put_36 : decode c_Modl_put 36 = .ok (.dup, 1) := by decide +kernel
theorem d_Modl_put_37 : decode c_Modl_put 37 = .ok (.getfield 271, 3) := by decide +kernel
theorem d_Modl_put_40 : decode c_Modl_put 40 = .ok (.iconst 1, 1) := by decide +kernel
theorem d_Modl_put_41 : decode c_Modl_put 41 = .ok (.iadd, 1) := by decide +kernel
theorem d_Modl_put_42 : decode c_Modl_put 42 = .ok (.putfield 271, 3) := by decide +kernel
theorem d_Modl_put_45 : decode c_Modl_put 45 = .ok (.aload_n 0, 1) := by decide +kernel
theorem d_Modl_put_46 : decode c_Modl_put 46 = .ok (.getfield 271, 3) := by decide +kernel
theorem d_Modl_put_49 : decode c_Modl_put 49 = .ok (.ireturn, 1) := by decide +kernel
abbrev c_Modl_clear : ByteArray := prog_11_method_50_code
abbrev y_Modl_clear : MethodName := ⟨"FactorDeskModel", "clear", "()I"⟩
theorem d_Modl_clear_0 : decode c_Modl_clear 0 = .ok (.aload_n 0, 1) := by decide +kernel
theorem d_Modl_clear_1 : decode c_Modl_clear 1 = .ok (.iconst 0, 1) := by decide +kernel
theorem d_Modl_clear_2 : decode c_Modl_clear 2 = .ok (.putfield 82, 3) := by decide +kernel
theorem d_Modl_clear_5 : decode c_Modl_clear 5 = .ok (.aload_n 0, 1) := by decide +kernel
theorem d_Modl_clear_6 : decode c_Modl_clear 6 = .ok (.getfield 271, 3) := by decide +kernel
theorem d_Modl_clear_9 : decode c_Modl_clear 9 = .ok (.istore_n 1, 1) := by decide +kernel
theorem d_Modl_clear_10 : decode c_Modl_clear 10 = .ok (.aload_n 0, 1) := by decide +kernel
theorem d_Modl_clear_11 : decode c_Modl_clear 11 = .ok (.iconst 0, 1) := by decide +kernel
theorem d_Modl_clear_12 : decode c_Modl_clear 12 = .ok (.putfield 271, 3) := by decide +kernel
theorem d_Modl_clear_15 : decode c_Modl_clear 15 = .ok (.iload_n 1, 1) := by decide +kernel
theorem d_Modl_clear_16 : decode c_Modl_clear 16 = .ok (.ireturn, 1) := by decide +kernel
abbrev c_Modl_tapeDegree : ByteArray := prog_11_method_51_code
abbrev y_Modl_tapeDegree : MethodName := ⟨"FactorDeskModel", "tapeDegree", "()I"⟩
theorem d_Modl_tapeDegree_0 : decode c_Modl_tapeDegree 0 = .ok (.aload_n 0, 1) := by decide +kernel
theorem d_Modl_tapeDegree_1 : decode c_Modl_tapeDegree 1 = .ok (.getfield 271, 3) := by decide +kernel
theorem d_Modl_tapeDegree_4 : decode c_Modl_tapeDegree 4 = .ok (.iconst 1, 1) := by decide +kernel
theorem d_Modl_tapeDegree_5 : decode c_Modl_tapeDegree 5 = .ok (.isub, 1) := by decide +kernel
theorem d_Modl_tapeDegree_6 : decode c_Modl_tapeDegree 6 = .ok (.istore_n 1, 1) := by decide +kernel
theorem d_Modl_tapeDegree_7 : decode c_Modl_tapeDegree 7 = .ok (.iload_n 1, 1) := by decide +kernel
theorem d_Modl_tapeDegree_8 : decode c_Modl_tapeDegree 8 = .ok (.ifCond .lt 20, 3) := by decide +kernel
theorem d_Modl_tapeDegree_11 : decode c_Modl_tapeDegree 11 = .ok (.aload_n 0, 1) := by decide +kernel
theorem d_Modl_tapeDegree_12 : decode c_Modl_tapeDegree 12 = .ok (.getfield 9, 3) := by decide +kernel
theorem d_Modl_tapeDegree_15 : decode c_Modl_tapeDegree 15 = .ok (.iload_n 1, 1) := by decide +kernel
theorem d_Modl_tapeDegree_16 : decode c_Modl_tapeDegree 16 = .ok (.laload, 1) := by decide +kernel
theorem d_Modl_tapeDegree_17 : decode c_Modl_tapeDegree 17 = .ok (.lconst 0, 1) := by decide +kernel
theorem d_Modl_tapeDegree_18 : decode c_Modl_tapeDegree 18 = .ok (.lcmp, 1) := by decide +kernel
theorem d_Modl_tapeDegree_19 : decode c_Modl_tapeDegree 19 = .ok (.ifCond .ne 9, 3) := by decide +kernel
theorem d_Modl_tapeDegree_22 : decode c_Modl_tapeDegree 22 = .ok (.iinc 1 (-1), 3) := by decide +kernel
theorem d_Modl_tapeDegree_25 : decode c_Modl_tapeDegree 25 = .ok (.goto (-18), 3) := by decide +kernel
theorem d_Modl_tapeDegree_28 : decode c_Modl_tapeDegree 28 = .ok (.iload_n 1, 1) := by decide +kernel
theorem d_Modl_tapeDegree_29 : decode c_Modl_tapeDegree 29 = .ok (.ireturn, 1) := by decide +kernel
abbrev c_Modl_take : ByteArray := prog_11_method_52_code
abbrev y_Modl_take : MethodName := ⟨"FactorDeskModel", "take", "()I"⟩
theorem d_Modl_take_0 : decode c_Modl_take 0 = .ok (.aload_n 0, 1) := by decide +kernel
theorem d_Modl_take_1 : decode c_Modl_take 1 = .ok (.invokevirtual 278, 3) := by decide +kernel
theorem d_Modl_take_4 : decode c_Modl_take 4 = .ok (.istore_n 1, 1) := by decide +kernel
theorem d_Modl_take_5 : decode c_Modl_take 5 = .ok (.aload_n 0, 1) := by decide +kernel
theorem d_Modl_take_6 : decode c_Modl_take 6 = .ok (.iload_n 1, 1) := by decide +kernel
theorem d_Modl_take_7 : decode c_Modl_take 7 = .ok (.ifCond .ge 7, 3) := by decide +kernel
theorem d_Modl_take_10 : decode c_Modl_take 10 = .ok (.iconst 1, 1) := by decide +kernel
theorem d_Modl_take_11 : decode c_Modl_take 11 = .ok (.goto 4, 3) := by decide +kernel
theorem d_Modl_take_14 : decode c_Modl_take 14 = .ok (.iconst 0, 1) := by decide +kernel
theorem d_Modl_take_15 : decode c_Modl_take 15 = .ok (.iconst 1, 1) := by decide +kernel
theorem d_Modl_take_16 : decode c_Modl_take 16 = .ok (.invokevirtual 274, 3) := by decide +kernel
theorem d_Modl_take_19 : decode c_Modl_take 19 = .ok (.ifCond .eq 5, 3) := by decide +kernel
theorem d_Modl_take_22 : decode c_Modl_take 22 = .ok (.iconst 0, 1) := by decide +kernel
theorem d_Modl_take_23 : decode c_Modl_take 23 = .ok (.ireturn, 1) := by decide +kernel
theorem d_Modl_take_24 : decode c_Modl_take 24 = .ok (.aload_n 0, 1) := by decide +kernel
theorem d_Modl_take_25 : decode c_Modl_take 25 = .ok (.iload_n 1, 1) := by decide +kernel
theorem d_Modl_take_26 : decode c_Modl_take 26 = .ok (.putfield 153, 3) := by decide +kernel
theorem d_Modl_take_29 : decode c_Modl_take 29 = .ok (.iconst 0, 1) := by decide +kernel
theorem d_Modl_take_30 : decode c_Modl_take 30 = .ok (.istore_n 2, 1) := by decide +kernel
theorem d_Modl_take_31 : decode c_Modl_take 31 = .ok (.iload_n 2, 1) := by decide +kernel
theorem d_Modl_take_32 : decode c_Modl_take 32 = .ok (.bipush 13, 2) := by decide +kernel
theorem d_Modl_take_34 : decode c_Modl_take 34 = .ok (.if_icmp .ge 30, 3) := by decide +kernel
theorem d_Modl_take_37 : decode c_Modl_take 37 = .ok (.aload_n 0, 1) := by decide +kernel
theorem d_Modl_take_38 : decode c_Modl_take 38 = .ok (.getfield 13, 3) := by decide +kernel
theorem d_Modl_take_41 : decode c_Modl_take 41 = .ok (.iload_n 2, 1) := by decide +kernel
theorem d_Modl_take_42 : decode c_Modl_take 42 = .ok (.iload_n 2, 1) := by decide +kernel
theorem d_Modl_take_43 : decode c_Modl_take 43 = .ok (.iload_n 1, 1) := by decide +kernel
theorem d_Modl_take_44 : decode c_Modl_take 44 = .ok (.if_icmp .gt 12, 3) := by decide +kernel
theorem d_Modl_take_47 : decode c_Modl_take 47 = .ok (.aload_n 0, 1) := by decide +kernel
theorem d_Modl_take_48 : decode c_Modl_take 48 = .ok (.getfield 9, 3) := by decide +kernel
theorem d_Modl_take_51 : decode c_Modl_take 51 = .ok (.iload_n 2, 1) := by decide +kernel
theorem d_Modl_take_52 : decode c_Modl_take 52 = .ok (.laload, 1) := by decide +kernel
theorem d_Modl_take_53 : decode c_Modl_take 53 = .ok (.goto 4, 3) := by decide +kernel
theorem d_Modl_take_56 : decode c_Modl_take 56 = .ok (.lconst 0, 1) := by decide +kernel
theorem d_Modl_take_57 : decode c_Modl_take 57 = .ok (.lastore, 1) := by decide +kernel
theorem d_Modl_take_58 : decode c_Modl_take 58 = .ok (.iinc 2 1, 3) := by decide +kernel
theorem d_Modl_take_61 : decode c_Modl_take 61 = .ok (.goto (-30), 3) := by decide +kernel
theorem d_Modl_take_64 : decode c_Modl_take 64 = .ok (.aload_n 0, 1) := by decide +kernel
theorem d_Modl_take_65 : decode c_Modl_take 65 = .ok (.iconst 0, 1) := by decide +kernel
theorem d_Modl_take_66 : decode c_Modl_take 66 = .ok (.putfield 271, 3) := by decide +kernel
theorem d_Modl_take_69 : decode c_Modl_take 69 = .ok (.iload_n 1, 1) := by decide +kernel
theorem d_Modl_take_70 : decode c_Modl_take 70 = .ok (.ireturn, 1) := by decide +kernel
abbrev c_Modl_times : ByteArray := prog_11_method_53_code
abbrev y_Modl_times : MethodName := ⟨"FactorDeskModel", "times", "()I"⟩
theorem d_Modl_times_0 : decode c_Modl_times 0 = .ok (.aload_n 0, 1) := by decide +kernel
theorem d_Modl_times_1 : decode c_Modl_times 1 = .ok (.invokevirtual 278, 3) := by decide +kernel
theorem d_Modl_times_4 : decode c_Modl_times 4 = .ok (.istore_n 1, 1) := by decide +kernel
theorem d_Modl_times_5 : decode c_Modl_times 5 = .ok (.aload_n 0, 1) := by decide +kernel
theorem d_Modl_times_6 : decode c_Modl_times 6 = .ok (.iload_n 1, 1) := by decide +kernel
theorem d_Modl_times_7 : decode c_Modl_times 7 = .ok (.ifCond .ge 7, 3) := by decide +kernel
theorem d_Modl_times_10 : decode c_Modl_times 10 = .ok (.iconst 1, 1) := by decide +kernel
theorem d_Modl_times_11 : decode c_Modl_times 11 = .ok (.goto 4, 3) := by decide +kernel
theorem d_Modl_times_14 : decode c_Modl_times 14 = .ok (.iconst 0, 1) := by decide +kernel
theorem d_Modl_times_15 : decode c_Modl_times 15 = .ok (.iconst 1, 1) := by decide +kernel
theorem d_Modl_times_16 : decode c_Modl_times 16 = .ok (.invokevirtual 274, 3) := by decide +kernel
theorem d_Modl_times_19 : decode c_Modl_times 19 = .ok (.ifCond .ne 27, 3) := by decide +kernel
theorem d_Modl_times_22 : decode c_Modl_times 22 = .ok (.aload_n 0, 1) := by decide +kernel
theorem d_Modl_times_23 : decode c_Modl_times 23 = .ok (.iload_n 1, 1) := by decide +kernel
theorem d_Modl_times_24 : decode c_Modl_times 24 = .ok (.aload_n 0, 1) := by decide +kernel
theorem d_Modl_times_25 : decode c_Modl_times 25 = .ok (.getfield 153, 3) := by decide +kernel
theorem d_Modl_times_28 : decode c_Modl_times 28 = .ok (.iadd, 1) := by decide +kernel
theorem d_Modl_times_29 : decode c_Modl_times 29 = .ok (.bipush 12, 2) := by decide +kernel
theorem d_Modl_times_31 : decode c_Modl_times 31 = .ok (.if_icmp .le 7, 3) := by decide +kernel
theorem d_Modl_times_34 : decode c_Modl_times 34 = .ok (.iconst 1, 1) := by decide +kernel
theorem d_Modl_times_35 : decode c_Modl_times 35 = .ok (.goto 4, 3) := by decide +kernel
theorem d_Modl_times_38 : decode c_Modl_times 38 = .ok (.iconst 0, 1) := by decide +kernel
theorem d_Modl_times_39 : decode c_Modl_times 39 = .ok (.iconst 2, 1) := by decide +kernel
theorem d_Modl_times_40 : decode c_Modl_times 40 = .ok (.invokevirtual 274, 3) := by decide +kernel
theorem d_Modl_times_43 : decode c_Modl_times 43 = .ok (.ifCond .eq 5, 3) := by decide +kernel
theorem d_Modl_times_46 : decode c_Modl_times 46 = .ok (.iconst 0, 1) := by decide +kernel
theorem d_Modl_times_47 : decode c_Modl_times 47 = .ok (.ireturn, 1) := by decide +kernel
theorem d_Modl_times_48 : decode c_Modl_times 48 = .ok (.iconst 1, 1) := by decide +kernel
theorem d_Modl_times_49 : decode c_Modl_times 49 = .ok (.istore_n 2, 1) := by decide +kernel
theorem d_Modl_times_50 : decode c_Modl_times 50 = .ok (.iconst 0, 1) := by decide +kernel
theorem d_Modl_times_51 : decode c_Modl_times 51 = .ok (.istore_n 3, 1) := by decide +kernel
theorem d_Modl_times_52 : decode c_Modl_times 52 = .ok (.iload_n 3, 1) := by decide +kernel
theorem d_Modl_times_53 : decode c_Modl_times 53 = .ok (.iload_n 1, 1) := by decide +kernel
theorem d_Modl_times_54 : decode c_Modl_times 54 = .ok (.aload_n 0, 1) := by decide +kernel
theorem d_Modl_times_55 : decode c_Modl_times 55 = .ok (.getfield 153, 3) := by decide +kernel
theorem d_Modl_times_58 : decode c_Modl_times 58 = .ok (.iadd, 1) := by decide +kernel
theorem d_Modl_times_59 : decode c_Modl_times 59 = .ok (.if_icmp .gt 167, 3) := by decide +kernel
theorem d_Modl_times_62 : decode c_Modl_times 62 = .ok (.lconst 0, 1) := by decide +kernel
theorem d_Modl_times_63 : decode c_Modl_times 63 = .ok (.lstore 4, 2) := by decide +kernel
theorem d_Modl_times_65 : decode c_Modl_times 65 = .ok (.lconst 0, 1) := by decide +kernel
theorem d_Modl_times_66 : decode c_Modl_times 66 = .ok (.lstore 6, 2) := by decide +kernel
theorem d_Modl_times_68 : decode c_Modl_times 68 = .ok (.iconst 0, 1) := by decide +kernel
theorem d_Modl_times_69 : decode c_Modl_times 69 = .ok (.istore 8, 2) := by decide +kernel
theorem d_Modl_times_71 : decode c_Modl_times 71 = .ok (.iload 8, 2) := by decide +kernel
theorem d_Modl_times_73 : decode c_Modl_times 73 = .ok (.iload_n 3, 1) := by decide +kernel
theorem d_Modl_times_74 : decode c_Modl_times 74 = .ok (.if_icmp .gt 70, 3) := by decide +kernel
theorem d_Modl_times_77 : decode c_Modl_times 77 = .ok (.iload 8, 2) := by decide +kernel
theorem d_Modl_times_79 : decode c_Modl_times 79 = .ok (.aload_n 0, 1) := by decide +kernel
theorem d_Modl_times_80 : decode c_Modl_times 80 = .ok (.getfield 153, 3) := by decide +kernel
theorem d_Modl_times_83 : decode c_Modl_times 83 = .ok (.if_icmp .gt 61, 3) := by decide +kernel
theorem d_Modl_times_86 : decode c_Modl_times 86 = .ok (.iload_n 3, 1) := by decide +kernel
theorem d_Modl_times_87 : decode c_Modl_times 87 = .ok (.iload 8, 2) := by decide +kernel
theorem d_Modl_times_89 : decode c_Modl_times 89 = .ok (.isub, 1) := by decide +kernel
theorem d_Modl_times_90 : decode c_Modl_times 90 = .ok (.iload_n 1, 1) := by decide +kernel
theorem d_Modl_times_91 : decode c_Modl_times 91 = .ok (.if_icmp .gt 23, 3) := by decide +kernel
theorem d_Modl_times_94 : decode c_Modl_times 94 = .ok (.aload_n 0, 1) := by decide +kernel
theorem d_Modl_times_95 : decode c_Modl_times 95 = .ok (.getfield 13, 3) := by decide +kernel
theorem d_Modl_times_98 : decode c_Modl_times 98 = .ok (.iload 8, 2) := by decide +kernel
theorem d_Modl_times_100 : decode c_Modl_times 100 = .ok (.laload, 1) := by decide +kernel
theorem d_Modl_times_101 : decode c_Modl_times 101 = .ok (.aload_n 0, 1) := by decide +kernel
theorem d_Modl_times_102 : decode c_Modl_times 102 = .ok (.getfield 9, 3) := by decide +kernel
theorem d_Modl_times_105 : decode c_Modl_times 105 = .ok (.iload_n 3, 1) := by decide +kernel
theorem d_Modl_times_106 : decode c_Modl_times 106 = .ok (.iload 8, 2) := by decide +kernel
theorem d_Modl_times_108 : decode c_Modl_times 108 = .ok (.isub, 1) := by decide +kernel
theorem d_Modl_times_109 : decode c_Modl_times 109 = .ok (.laload, 1) := by decide +kernel
theorem d_Modl_times_110 : decode c_Modl_times 110 = .ok (.lmul, 1) := by decide +kernel
theorem d_Modl_times_111 : decode c_Modl_times 111 = .ok (.goto 4, 3) := by decide +kernel
theorem d_Modl_times_114 : decode c_Modl_times 114 = .ok (.lconst 0, 1) := by decide +kernel
theorem d_Modl_times_115 : decode c_Modl_times 115 = .ok (.lstore 9, 2) := by decide +kernel
theorem d_Modl_times_117 : decode c_Modl_times 117 = .ok (.lload 4, 2) := by decide +kernel
theorem d_Modl_times_119 : decode c_Modl_times 119 = .ok (.lload 9, 2) := by decide +kernel
theorem d_Modl_times_121 : decode c_Modl_times 121 = .ok (.bipush 32, 2) := by decide +kernel
theorem d_Modl_times_123 : decode c_Modl_times 123 = .ok (.lshr, 1) := by decide +kernel
theorem d_Modl_times_124 : decode c_Modl_times 124 = .ok (.ladd, 1) := by decide +kernel
theorem d_Modl_times_125 : decode c_Modl_times 125 = .ok (.lstore 4, 2) := by decide +kernel
theorem d_Modl_times_127 : decode c_Modl_times 127 = .ok (.lload 6, 2) := by decide +kernel
theorem d_Modl_times_129 : decode c_Modl_times 129 = .ok (.lload 9, 2) := by decide +kernel
theorem d_Modl_times_131 : decode c_Modl_times 131 = .ok (.ldc2_w 282, 3) := by decide +kernel
theorem d_Modl_times_134 : decode c_Modl_times 134 = .ok (.land, 1) := by decide +kernel
theorem d_Modl_times_135 : decode c_Modl_times 135 = .ok (.ladd, 1) := by decide +kernel
theorem d_Modl_times_136 : decode c_Modl_times 136 = .ok (.lstore 6, 2) := by decide +kernel
theorem d_Modl_times_138 : decode c_Modl_times 138 = .ok (.iinc 8 1, 3) := by decide +kernel
theorem d_Modl_times_141 : decode c_Modl_times 141 = .ok (.goto (-70), 3) := by decide +kernel
theorem d_Modl_times_144 : decode c_Modl_times 144 = .ok (.lload 4, 2) := by decide +kernel
theorem d_Modl_times_146 : decode c_Modl_times 146 = .ok (.lload 6, 2) := by decide +kernel
theorem d_Modl_times_148 : decode c_Modl_times 148 = .ok (.bipush 32, 2) := by decide +kernel
theorem d_Modl_times_150 : decode c_Modl_times 150 = .ok (.lshr, 1) := by decide +kernel
theorem d_Modl_times_151 : decode c_Modl_times 151 = .ok (.ladd, 1) := by decide +kernel
theorem d_Modl_times_152 : decode c_Modl_times 152 = .ok (.lstore 4, 2) := by decide +kernel
theorem d_Modl_times_154 : decode c_Modl_times 154 = .ok (.lload 6, 2) := by decide +kernel
theorem d_Modl_times_156 : decode c_Modl_times 156 = .ok (.ldc2_w 282, 3) := by decide +kernel
theorem d_Modl_times_159 : decode c_Modl_times 159 = .ok (.land, 1) := by decide +kernel
theorem d_Modl_times_160 : decode c_Modl_times 160 = .ok (.lstore 6, 2) := by decide +kernel
theorem d_Modl_times_162 : decode c_Modl_times 162 = .ok (.iload_n 2, 1) := by decide +kernel
theorem d_Modl_times_163 : decode c_Modl_times 163 = .ok (.ifCond .eq 41, 3) := by decide +kernel
theorem d_Modl_times_166 : decode c_Modl_times 166 = .ok (.lload 4, 2) := by decide +kernel
theorem d_Modl_times_168 : decode c_Modl_times 168 = .ok (.lconst 0, 1) := by decide +kernel
theorem d_Modl_times_169 : decode c_Modl_times 169 = .ok (.lcmp, 1) := by decide +kernel
theorem d_Modl_times_170 : decode c_Modl_times 170 = .ok (.ifCond .ne 12, 3) := by decide +kernel
theorem d_Modl_times_173 : decode c_Modl_times 173 = .ok (.lload 6, 2) := by decide +kernel
theorem d_Modl_times_175 : decode c_Modl_times 175 = .ok (.ldc2_w 284, 3) := by decide +kernel
theorem d_Modl_times_178 : decode c_Modl_times 178 = .ok (.lcmp, 1) := by decide +kernel
theorem d_Modl_times_179 : decode c_Modl_times 179 = .ok (.ifCond .le 21, 3) := by decide +kernel
theorem d_Modl_times_182 : decode c_Modl_times 182 = .ok (.lload 4, 2) := by decide +kernel
theorem d_Modl_times_184 : decode c_Modl_times 184 = .ok (.ldc2_w 286, 3) := by decide +kernel
theorem d_Modl_times_187 : decode c_Modl_times 187 = .ok (.lcmp, 1) := by decide +kernel
theorem d_Modl_times_188 : decode c_Modl_times 188 = .ok (.ifCond .ne 16, 3) := by decide +kernel
theorem d_Modl_times_191 : decode c_Modl_times 191 = .ok (.lload 6, 2) := by decide +kernel
theorem d_Modl_times_193 : decode c_Modl_times 193 = .ok (.ldc2_w 288, 3) := by decide +kernel
theorem d_Modl_times_196 : decode c_Modl_times 196 = .ok (.lcmp, 1) := by decide +kernel
theorem d_Modl_times_197 : decode c_Modl_times 197 = .ok (.ifCond .lt 7, 3) := by decide +kernel
theorem d_Modl_times_200 : decode c_Modl_times 200 = .ok (.iconst 1, 1) := by decide +kernel
theorem d_Modl_times_201 : decode c_Modl_times 201 = .ok (.goto 4, 3) := by decide +kernel
theorem d_Modl_times_204 : decode c_Modl_times 204 = .ok (.iconst 0, 1) := by decide +kernel
theorem d_Modl_times_205 : decode c_Modl_times 205 = .ok (.istore_n 2, 1) := by decide +kernel
theorem d_Modl_times_206 : decode c_Modl_times 206 = .ok (.aload_n 0, 1) := by decide +kernel
theorem d_Modl_times_207 : decode c_Modl_times 207 = .ok (.getfield 67, 3) := by decide +kernel
theorem d_Modl_times_210 : decode c_Modl_times 210 = .ok (.iload_n 3, 1) := by decide +kernel
theorem d_Modl_times_211 : decode c_Modl_times 211 = .ok (.lload 4, 2) := by decide +kernel
theorem d_Modl_times_213 : decode c_Modl_times 213 = .ok (.bipush 32, 2) := by decide +kernel
theorem d_Modl_times_215 : decode c_Modl_times 215 = .ok (.lshl, 1) := by decide +kernel
theorem d_Modl_times_216 : decode c_Modl_times 216 = .ok (.lload 6, 2) := by decide +kernel
theorem d_Modl_times_218 : decode c_Modl_times 218 = .ok (.lor, 1) := by decide +kernel
theorem d_Modl_times_219 : decode c_Modl_times 219 = .ok (.lastore, 1) := by decide +kernel
theorem d_Modl_times_220 : decode c_Modl_times 220 = .ok (.iinc 3 1, 3) := by decide +kernel
theorem d_Modl_times_223 : decode c_Modl_times 223 = .ok (.goto (-171), 3) := by decide +kernel
theorem d_Modl_times_226 : decode c_Modl_times 226 = .ok (.aload_n 0, 1) := by decide +kernel
theorem d_Modl_times_227 : decode c_Modl_times 227 = .ok (.iload_n 2, 1) := by decide +kernel
theorem d_Modl_times_228 : decode c_Modl_times 228 = .ok (.ifCond .ne 7, 3) := by decide +kernel
theorem d_Modl_times_231 : decode c_Modl_times 231 = .ok (.iconst 1, 1) := by decide +kernel
theorem d_Modl_times_232 : decode c_Modl_times 232 = .ok (.goto 4, 3) := by decide +kernel
theorem d_Modl_times_235 : decode c_Modl_times 235 = .ok (.iconst 0, 1) := by decide +kernel
theorem d_Modl_times_236 : decode c_Modl_times 236 = .ok (.iconst 2, 1) := by decide +kernel
theorem d_Modl_times_237 : decode c_Modl_times 237 = .ok (.invokevirtual 274, 3) := by decide +kernel
theorem d_Modl_times_240 : decode c_Modl_times 240 = .ok (.ifCond .eq 5, 3) := by decide +kernel
theorem d_Modl_times_243 : decode c_Modl_times 243 = .ok (.iconst 0, 1) := by decide +kernel
theorem d_Modl_times_244 : decode c_Modl_times 244 = .ok (.ireturn, 1) := by decide +kernel
theorem d_Modl_times_245 : decode c_Modl_times 245 = .ok (.aload_n 0, 1) := by decide +kernel
theorem d_Modl_times_246 : decode c_Modl_times 246 = .ok (.dup, 1) := by decide +kernel
theorem d_Modl_times_247 : decode c_Modl_times 247 = .ok (.getfield 153, 3) := by decide +kernel
theorem d_Modl_times_250 : decode c_Modl_times 250 = .ok (.iload_n 1, 1) := by decide +kernel
theorem d_Modl_times_251 : decode c_Modl_times 251 = .ok (.iadd, 1) := by decide +kernel
theorem d_Modl_times_252 : decode c_Modl_times 252 = .ok (.putfield 153, 3) := by decide +kernel
theorem d_Modl_times_255 : decode c_Modl_times 255 = .ok (.iconst 0, 1) := by decide +kernel
theorem d_Modl_times_256 : decode c_Modl_times 256 = .ok (.istore_n 3, 1) := by decide +kernel
theorem d_Modl_times_257 : decode c_Modl_times 257 = .ok (.iload_n 3, 1) := by decide +kernel
theorem d_Modl_times_258 : decode c_Modl_times 258 = .ok (.bipush 13, 2) := by decide +kernel
theorem d_Modl_times_260 : decode c_Modl_times 260 = .ok (.if_icmp .ge 33, 3) := by decide +kernel
theorem d_Modl_times_263 : decode c_Modl_times 263 = .ok (.aload_n 0, 1) := by decide +kernel
theorem d_Modl_times_264 : decode c_Modl_times 264 = .ok (.getfield 13, 3) := by decide +kernel
theorem d_Modl_times_267 : decode c_Modl_times 267 = .ok (.iload_n 3, 1) := by decide +kernel
theorem d_Modl_times_268 : decode c_Modl_times 268 = .ok (.iload_n 3, 1) := by decide +kernel
theorem d_Modl_times_269 : decode c_Modl_times 269 = .ok (.aload_n 0, 1) := by decide +kernel
theorem d_Modl_times_270 : decode c_Modl_times 270 = .ok (.getfield 153, 3) := by decide +kernel
theorem d_Modl_times_273 : decode c_Modl_times 273 = .ok (.if_icmp .gt 12, 3) := by decide +kernel
theorem d_Modl_times_276 : decode c_Modl_times 276 = .ok (.aload_n 0, 1) := by decide +kernel
theorem d_Modl_times_277 : decode c_Modl_times 277 = .ok (.getfield 67, 3) := by decide +kernel
theorem d_Modl_times_280 : decode c_Modl_times 280 = .ok (.iload_n 3, 1) := by decide +kernel
theorem d_Modl_times_281 : decode c_Modl_times 281 = .ok (.laload, 1) := by decide +kernel
theorem d_Modl_times_282 : decode c_Modl_times 282 = .ok (.goto 4, 3) := by decide +kernel
theorem d_Modl_times_285 : decode c_Modl_times 285 = .ok (.lconst 0, 1) := by decide +kernel
theorem d_Modl_times_286 : decode c_Modl_times 286 = .ok (.lastore, 1) := by decide +kernel
theorem d_Modl_times_287 : decode c_Modl_times 287 = .ok (.iinc 3 1, 3) := by decide +kernel
theorem d_Modl_times_290 : decode c_Modl_times 290 = .ok (.goto (-33), 3) := by decide +kernel
theorem d_Modl_times_293 : decode c_Modl_times 293 = .ok (.aload_n 0, 1) := by decide +kernel
theorem d_Modl_times_294 : decode c_Modl_times 294 = .ok (.iconst 0, 1) := by decide +kernel
theorem d_Modl_times_295 : decode c_Modl_times 295 = .ok (.putfield 271, 3) := by decide +kernel
theorem d_Modl_times_298 : decode c_Modl_times 298 = .ok (.aload_n 0, 1) := by decide +kernel
theorem d_Modl_times_299 : decode c_Modl_times 299 = .ok (.getfield 153, 3) := by decide +kernel
theorem d_Modl_times_302 : decode c_Modl_times 302 = .ok (.ireturn, 1) := by decide +kernel
abbrev c_Modl_common : ByteArray := prog_11_method_62_code
abbrev y_Modl_common : MethodName := ⟨"FactorDeskModel", "common", "()I"⟩
theorem d_Modl_common_0 : decode c_Modl_common 0 = .ok (.aload_n 0, 1) := by decide +kernel
theorem d_Modl_common_1 : decode c_Modl_common 1 = .ok (.invokevirtual 278, 3) := by decide +kernel
theorem d_Modl_common_4 : decode c_Modl_common 4 = .ok (.istore_n 1, 1) := by decide +kernel
theorem d_Modl_common_5 : decode c_Modl_common 5 = .ok (.aload_n 0, 1) := by decide +kernel
theorem d_Modl_common_6 : decode c_Modl_common 6 = .ok (.iload_n 1, 1) := by decide +kernel
theorem d_Modl_common_7 : decode c_Modl_common 7 = .ok (.ifCond .ge 7, 3) := by decide +kernel
theorem d_Modl_common_10 : decode c_Modl_common 10 = .ok (.iconst 1, 1) := by decide +kernel
theorem d_Modl_common_11 : decode c_Modl_common 11 = .ok (.goto 4, 3) := by decide +kernel
theorem d_Modl_common_14 : decode c_Modl_common 14 = .ok (.iconst 0, 1) := by decide +kernel
theorem d_Modl_common_15 : decode c_Modl_common 15 = .ok (.iconst 1, 1) := by decide +kernel
theorem d_Modl_common_16 : decode c_Modl_common 16 = .ok (.invokevirtual 274, 3) := by decide +kernel
theorem d_Modl_common_19 : decode c_Modl_common 19 = .ok (.ifCond .eq 5, 3) := by decide +kernel
theorem d_Modl_common_22 : decode c_Modl_common 22 = .ok (.iconst 0, 1) := by decide +kernel
theorem d_Modl_common_23 : decode c_Modl_common 23 = .ok (.ireturn, 1) := by decide +kernel
theorem d_Modl_common_24 : decode c_Modl_common 24 = .ok (.aload_n 0, 1) := by decide +kernel
theorem d_Modl_common_25 : decode c_Modl_common 25 = .ok (.aload_n 0, 1) := by decide +kernel
theorem d_Modl_common_26 : decode c_Modl_common 26 = .ok (.getfield 13, 3) := by decide +kernel
theorem d_Modl_common_29 : decode c_Modl_common 29 = .ok (.aload_n 0, 1) := by decide +kernel
theorem d_Modl_common_30 : decode c_Modl_common 30 = .ok (.getfield 153, 3) := by decide +kernel
theorem d_Modl_common_33 : decode c_Modl_common 33 = .ok (.aload_n 0, 1) := by decide +kernel
theorem d_Modl_common_34 : decode c_Modl_common 34 = .ok (.getfield 9, 3) := by decide +kernel
theorem d_Modl_common_37 : decode c_Modl_common 37 = .ok (.iload_n 1, 1) := by decide +kernel
theorem d_Modl_common_38 : decode c_Modl_common 38 = .ok (.invokevirtual 252, 3) := by decide +kernel
theorem d_Modl_common_41 : decode c_Modl_common 41 = .ok (.istore_n 2, 1) := by decide +kernel
theorem d_Modl_common_42 : decode c_Modl_common 42 = .ok (.aload_n 0, 1) := by decide +kernel
theorem d_Modl_common_43 : decode c_Modl_common 43 = .ok (.iconst 3, 1) := by decide +kernel
theorem d_Modl_common_44 : decode c_Modl_common 44 = .ok (.aload_n 0, 1) := by decide +kernel
theorem d_Modl_common_45 : decode c_Modl_common 45 = .ok (.getfield 13, 3) := by decide +kernel
theorem d_Modl_common_48 : decode c_Modl_common 48 = .ok (.aload_n 0, 1) := by decide +kernel
theorem d_Modl_common_49 : decode c_Modl_common 49 = .ok (.getfield 153, 3) := by decide +kernel
theorem d_Modl_common_52 : decode c_Modl_common 52 = .ok (.invokevirtual 191, 3) := by decide +kernel
theorem d_Modl_common_55 : decode c_Modl_common 55 = .ok (.aload_n 0, 1) := by decide +kernel
theorem d_Modl_common_56 : decode c_Modl_common 56 = .ok (.iconst 4, 1) := by decide +kernel
theorem d_Modl_common_57 : decode c_Modl_common 57 = .ok (.aload_n 0, 1) := by decide +kernel
theorem d_Modl_common_58 : decode c_Modl_common 58 = .ok (.getfield 9, 3) := by decide +kernel
theorem d_Modl_common_61 : decode c_Modl_common 61 = .ok (.iload_n 1, 1) := by decide +kernel
theorem d_Modl_common_62 : decode c_Modl_common 62 = .ok (.invokevirtual 191, 3) := by decide +kernel
theorem d_Modl_common_65 : decode c_Modl_common 65 = .ok (.aload_n 0, 1) := by decide +kernel
theorem d_Modl_common_66 : decode c_Modl_common 66 = .ok (.iconst 5, 1) := by decide +kernel
theorem d_Modl_common_67 : decode c_Modl_common 67 = .ok (.iconst 3, 1) := by decide +kernel
theorem d_Modl_common_68 : decode c_Modl_common 68 = .ok (.iconst 4, 1) := by decide +kernel
theorem d_Modl_common_69 : decode c_Modl_common 69 = .ok (.invokevirtual 195, 3) := by decide +kernel
theorem d_Modl_common_72 : decode c_Modl_common 72 = .ok (.aload_n 0, 1) := by decide +kernel
theorem d_Modl_common_73 : decode c_Modl_common 73 = .ok (.getfield 13, 3) := by decide +kernel
theorem d_Modl_common_76 : decode c_Modl_common 76 = .ok (.aload_n 0, 1) := by decide +kernel
theorem d_Modl_common_77 : decode c_Modl_common 77 = .ok (.getfield 153, 3) := by decide +kernel
theorem d_Modl_common_80 : decode c_Modl_common 80 = .ok (.laload, 1) := by decide +kernel
theorem d_Modl_common_81 : decode c_Modl_common 81 = .ok (.aload_n 0, 1) := by decide +kernel
theorem d_Modl_common_82 : decode c_Modl_common 82 = .ok (.getfield 9, 3) := by decide +kernel
theorem d_Modl_common_85 : decode c_Modl_common 85 = .ok (.iload_n 1, 1) := by decide +kernel
theorem d_Modl_common_86 : decode c_Modl_common 86 = .ok (.laload, 1) := by decide +kernel
theorem d_Modl_common_87 : decode c_Modl_common 87 = .ok (.invokestatic 149, 3) := by decide +kernel
theorem d_Modl_common_90 : decode c_Modl_common 90 = .ok (.lstore_n 3, 1) := by decide +kernel
theorem d_Modl_common_91 : decode c_Modl_common 91 = .ok (.aload_n 0, 1) := by decide +kernel
theorem d_Modl_common_92 : decode c_Modl_common 92 = .ok (.iconst 0, 1) := by decide +kernel
theorem d_Modl_common_93 : decode c_Modl_common 93 = .ok (.iconst 5, 1) := by decide +kernel
theorem d_Modl_common_94 : decode c_Modl_common 94 = .ok (.invokevirtual 131, 3) := by decide +kernel
theorem d_Modl_common_97 : decode c_Modl_common 97 = .ok (.aload_n 0, 1) := by decide +kernel
theorem d_Modl_common_98 : decode c_Modl_common 98 = .ok (.iconst 0, 1) := by decide +kernel
theorem d_Modl_common_99 : decode c_Modl_common 99 = .ok (.lload_n 3, 1) := by decide +kernel
theorem d_Modl_common_100 : decode c_Modl_common 100 = .ok (.invokevirtual 230, 3) := by decide +kernel
theorem d_Modl_common_103 : decode c_Modl_common 103 = .ok (.pop, 1) := by decide +kernel
theorem d_Modl_common_104 : decode c_Modl_common 104 = .ok (.aload_n 0, 1) := by decide +kernel
theorem d_Modl_common_105 : decode c_Modl_common 105 = .ok (.iload_n 2, 1) := by decide +kernel
theorem d_Modl_common_106 : decode c_Modl_common 106 = .ok (.putfield 296, 3) := by decide +kernel
theorem d_Modl_common_109 : decode c_Modl_common 109 = .ok (.iconst 0, 1) := by decide +kernel
theorem d_Modl_common_110 : decode c_Modl_common 110 = .ok (.istore 5, 2) := by decide +kernel
theorem d_Modl_common_112 : decode c_Modl_common 112 = .ok (.iload 5, 2) := by decide +kernel
theorem d_Modl_common_114 : decode c_Modl_common 114 = .ok (.bipush 13, 2) := by decide +kernel
theorem d_Modl_common_116 : decode c_Modl_common 116 = .ok (.if_icmp .ge 33, 3) := by decide +kernel
theorem d_Modl_common_119 : decode c_Modl_common 119 = .ok (.aload_n 0, 1) := by decide +kernel
theorem d_Modl_common_120 : decode c_Modl_common 120 = .ok (.getfield 16, 3) := by decide +kernel
theorem d_Modl_common_123 : decode c_Modl_common 123 = .ok (.iload 5, 2) := by decide +kernel
theorem d_Modl_common_125 : decode c_Modl_common 125 = .ok (.iload 5, 2) := by decide +kernel
theorem d_Modl_common_127 : decode c_Modl_common 127 = .ok (.iload_n 2, 1) := by decide +kernel
theorem d_Modl_common_128 : decode c_Modl_common 128 = .ok (.if_icmp .gt 13, 3) := by decide +kernel
theorem d_Modl_common_131 : decode c_Modl_common 131 = .ok (.aload_n 0, 1) := by decide +kernel
theorem d_Modl_common_132 : decode c_Modl_common 132 = .ok (.getfield 67, 3) := by decide +kernel
theorem d_Modl_common_135 : decode c_Modl_common 135 = .ok (.iload 5, 2) := by decide +kernel
theorem d_Modl_common_137 : decode c_Modl_common 137 = .ok (.laload, 1) := by decide +kernel
theorem d_Modl_common_138 : decode c_Modl_common 138 = .ok (.goto 4, 3) := by decide +kernel
theorem d_Modl_common_141 : decode c_Modl_common 141 = .ok (.lconst 0, 1) := by decide +kernel
theorem d_Modl_common_142 : decode c_Modl_common 142 = .ok (.lastore, 1) := by decide +kernel
theorem d_Modl_common_143 : decode c_Modl_common 143 = .ok (.iinc 5 1, 3) := by decide +kernel
theorem d_Modl_common_146 : decode c_Modl_common 146 = .ok (.goto (-34), 3) := by decide +kernel
theorem d_Modl_common_149 : decode c_Modl_common 149 = .ok (.aload_n 0, 1) := by decide +kernel
theorem d_Modl_common_150 : decode c_Modl_common 150 = .ok (.iconst 0, 1) := by decide +kernel
theorem d_Modl_common_151 : decode c_Modl_common 151 = .ok (.putfield 271, 3) := by decide +kernel
theorem d_Modl_common_154 : decode c_Modl_common 154 = .ok (.iload_n 2, 1) := by decide +kernel
theorem d_Modl_common_155 : decode c_Modl_common 155 = .ok (.ireturn, 1) := by decide +kernel
abbrev c_Modl_divides : ByteArray := prog_11_method_64_code
abbrev y_Modl_divides : MethodName := ⟨"FactorDeskModel", "divides", "()Z"⟩
theorem d_Modl_divides_0 : decode c_Modl_divides 0 = .ok (.aload_n 0, 1) := by decide +kernel
theorem d_Modl_divides_1 : decode c_Modl_divides 1 = .ok (.invokevirtual 278, 3) := by decide +kernel
theorem d_Modl_divides_4 : decode c_Modl_divides 4 = .ok (.istore_n 1, 1) := by decide +kernel
theorem d_Modl_divides_5 : decode c_Modl_divides 5 = .ok (.aload_n 0, 1) := by decide +kernel
theorem d_Modl_divides_6 : decode c_Modl_divides 6 = .ok (.iload_n 1, 1) := by decide +kernel
theorem d_Modl_divides_7 : decode c_Modl_divides 7 = .ok (.ifCond .ge 7, 3) := by decide +kernel
theorem d_Modl_divides_10 : decode c_Modl_divides 10 = .ok (.iconst 1, 1) := by decide +kernel
theorem d_Modl_divides_11 : decode c_Modl_divides 11 = .ok (.goto 4, 3) := by decide +kernel
theorem d_Modl_divides_14 : decode c_Modl_divides 14 = .ok (.iconst 0, 1) := by decide +kernel
theorem d_Modl_divides_15 : decode c_Modl_divides 15 = .ok (.iconst 1, 1) := by decide +kernel
theorem d_Modl_divides_16 : decode c_Modl_divides 16 = .ok (.invokevirtual 274, 3) := by decide +kernel
theorem d_Modl_divides_19 : decode c_Modl_divides 19 = .ok (.ifCond .eq 5, 3) := by decide +kernel
theorem d_Modl_divides_22 : decode c_Modl_divides 22 = .ok (.iconst 0, 1) := by decide +kernel
theorem d_Modl_divides_23 : decode c_Modl_divides 23 = .ok (.ireturn, 1) := by decide +kernel
theorem d_Modl_divides_24 : decode c_Modl_divides 24 = .ok (.iload_n 1, 1) := by decide +kernel
theorem d_Modl_divides_25 : decode c_Modl_divides 25 = .ok (.aload_n 0, 1) := by decide +kernel
theorem d_Modl_divides_26 : decode c_Modl_divides 26 = .ok (.getfield 153, 3) := by decide +kernel
theorem d_Modl_divides_29 : decode c_Modl_divides 29 = .ok (.if_icmp .gt 28, 3) := by decide +kernel
theorem d_Modl_divides_32 : decode c_Modl_divides 32 = .ok (.aload_n 0, 1) := by decide +kernel
theorem d_Modl_divides_33 : decode c_Modl_divides 33 = .ok (.aload_n 0, 1) := by decide +kernel
theorem d_Modl_divides_34 : decode c_Modl_divides 34 = .ok (.getfield 13, 3) := by decide +kernel
theorem d_Modl_divides_37 : decode c_Modl_divides 37 = .ok (.aload_n 0, 1) := by decide +kernel
theorem d_Modl_divides_38 : decode c_Modl_divides 38 = .ok (.getfield 153, 3) := by decide +kernel
theorem d_Modl_divides_41 : decode c_Modl_divides 41 = .ok (.aload_n 0, 1) := by decide +kernel
theorem d_Modl_divides_42 : decode c_Modl_divides 42 = .ok (.getfield 9, 3) := by decide +kernel
theorem d_Modl_divides_45 : decode c_Modl_divides 45 = .ok (.iload_n 1, 1) := by decide +kernel
theorem d_Modl_divides_46 : decode c_Modl_divides 46 = .ok (.invokevirtual 252, 3) := by decide +kernel
theorem d_Modl_divides_49 : decode c_Modl_divides 49 = .ok (.iload_n 1, 1) := by decide +kernel
theorem d_Modl_divides_50 : decode c_Modl_divides 50 = .ok (.if_icmp .ne 7, 3) := by decide +kernel
theorem d_Modl_divides_53 : decode c_Modl_divides 53 = .ok (.iconst 1, 1) := by decide +kernel
theorem d_Modl_divides_54 : decode c_Modl_divides 54 = .ok (.goto 4, 3) := by decide +kernel
theorem d_Modl_divides_57 : decode c_Modl_divides 57 = .ok (.iconst 0, 1) := by decide +kernel
theorem d_Modl_divides_58 : decode c_Modl_divides 58 = .ok (.istore_n 2, 1) := by decide +kernel
theorem d_Modl_divides_59 : decode c_Modl_divides 59 = .ok (.aload_n 0, 1) := by decide +kernel
theorem d_Modl_divides_60 : decode c_Modl_divides 60 = .ok (.iconst 0, 1) := by decide +kernel
theorem d_Modl_divides_61 : decode c_Modl_divides 61 = .ok (.putfield 271, 3) := by decide +kernel
theorem d_Modl_divides_64 : decode c_Modl_divides 64 = .ok (.iload_n 2, 1) := by decide +kernel
theorem d_Modl_divides_65 : decode c_Modl_divides 65 = .ok (.ireturn, 1) := by decide +kernel
abbrev c_Modl_degree : ByteArray := prog_11_method_55_code
abbrev y_Modl_degree : MethodName := ⟨"FactorDeskModel", "degree", "()I"⟩
theorem d_Modl_degree_0 : decode c_Modl_degree 0 = .ok (.aload_n 0, 1) := by decide +kernel
theorem d_Modl_degree_1 : decode c_Modl_degree 1 = .ok (.iconst 0, 1) := by decide +kernel
theorem d_Modl_degree_2 : decode c_Modl_degree 2 = .ok (.putfield 82, 3) := by decide +kernel
theorem d_Modl_degree_5 : decode c_Modl_degree 5 = .ok (.aload_n 0, 1) := by decide +kernel
theorem d_Modl_degree_6 : decode c_Modl_degree 6 = .ok (.getfield 153, 3) := by decide +kernel
theorem d_Modl_degree_9 : decode c_Modl_degree 9 = .ok (.ireturn, 1) := by decide +kernel
abbrev c_Modl_gcd : ByteArray := prog_11_method_26_code
abbrev y_Modl_gcd : MethodName := ⟨"FactorDeskModel", "gcd", "(JJ)J"⟩
theorem d_Modl_gcd_0 : decode c_Modl_gcd 0 = .ok (.lload_n 0, 1) := by decide +kernel
theorem d_Modl_gcd_1 : decode c_Modl_gcd 1 = .ok (.lconst 0, 1) := by decide +kernel
theorem d_Modl_gcd_2 : decode c_Modl_gcd 2 = .ok (.lcmp, 1) := by decide +kernel
theorem d_Modl_gcd_3 : decode c_Modl_gcd 3 = .ok (.ifCond .ge 8, 3) := by decide +kernel
theorem d_Modl_gcd_6 : decode c_Modl_gcd 6 = .ok (.lload_n 0, 1) := by decide +kernel
theorem d_Modl_gcd_7 : decode c_Modl_gcd 7 = .ok (.lneg, 1) := by decide +kernel
theorem d_Modl_gcd_8 : decode c_Modl_gcd 8 = .ok (.goto 4, 3) := by decide +kernel
theorem d_Modl_gcd_11 : decode c_Modl_gcd 11 = .ok (.lload_n 0, 1) := by decide +kernel
theorem d_Modl_gcd_12 : decode c_Modl_gcd 12 = .ok (.lstore 4, 2) := by decide +kernel
theorem d_Modl_gcd_14 : decode c_Modl_gcd 14 = .ok (.lload_n 2, 1) := by decide +kernel
theorem d_Modl_gcd_15 : decode c_Modl_gcd 15 = .ok (.lconst 0, 1) := by decide +kernel
theorem d_Modl_gcd_16 : decode c_Modl_gcd 16 = .ok (.lcmp, 1) := by decide +kernel
theorem d_Modl_gcd_17 : decode c_Modl_gcd 17 = .ok (.ifCond .ge 8, 3) := by decide +kernel
theorem d_Modl_gcd_20 : decode c_Modl_gcd 20 = .ok (.lload_n 2, 1) := by decide +kernel
theorem d_Modl_gcd_21 : decode c_Modl_gcd 21 = .ok (.lneg, 1) := by decide +kernel
theorem d_Modl_gcd_22 : decode c_Modl_gcd 22 = .ok (.goto 4, 3) := by decide +kernel
theorem d_Modl_gcd_25 : decode c_Modl_gcd 25 = .ok (.lload_n 2, 1) := by decide +kernel
theorem d_Modl_gcd_26 : decode c_Modl_gcd 26 = .ok (.lstore 6, 2) := by decide +kernel
theorem d_Modl_gcd_28 : decode c_Modl_gcd 28 = .ok (.lload 6, 2) := by decide +kernel
theorem d_Modl_gcd_30 : decode c_Modl_gcd 30 = .ok (.lconst 0, 1) := by decide +kernel
theorem d_Modl_gcd_31 : decode c_Modl_gcd 31 = .ok (.lcmp, 1) := by decide +kernel
theorem d_Modl_gcd_32 : decode c_Modl_gcd 32 = .ok (.ifCond .eq 21, 3) := by decide +kernel
theorem d_Modl_gcd_35 : decode c_Modl_gcd 35 = .ok (.lload 4, 2) := by decide +kernel
theorem d_Modl_gcd_37 : decode c_Modl_gcd 37 = .ok (.lload 6, 2) := by decide +kernel
theorem d_Modl_gcd_39 : decode c_Modl_gcd 39 = .ok (.lrem, 1) := by decide +kernel
theorem d_Modl_gcd_40 : decode c_Modl_gcd 40 = .ok (.lstore 8, 2) := by decide +kernel
theorem d_Modl_gcd_42 : decode c_Modl_gcd 42 = .ok (.lload 6, 2) := by decide +kernel
theorem d_Modl_gcd_44 : decode c_Modl_gcd 44 = .ok (.lstore 4, 2) := by decide +kernel
theorem d_Modl_gcd_46 : decode c_Modl_gcd 46 = .ok (.lload 8, 2) := by decide +kernel
theorem d_Modl_gcd_48 : decode c_Modl_gcd 48 = .ok (.lstore 6, 2) := by decide +kernel
theorem d_Modl_gcd_50 : decode c_Modl_gcd 50 = .ok (.goto (-22), 3) := by decide +kernel
theorem d_Modl_gcd_53 : decode c_Modl_gcd 53 = .ok (.lload 4, 2) := by decide +kernel
theorem d_Modl_gcd_55 : decode c_Modl_gcd 55 = .ok (.lreturn, 1) := by decide +kernel
abbrev c_Modl_contentOf : ByteArray := prog_11_method_27_code
abbrev y_Modl_contentOf : MethodName := ⟨"FactorDeskModel", "contentOf", "([JI)J"⟩
theorem d_Modl_contentOf_0 : decode c_Modl_contentOf 0 = .ok (.lconst 0, 1) := by decide +kernel
theorem d_Modl_contentOf_1 : decode c_Modl_contentOf 1 = .ok (.lstore_n 2, 1) := by decide +kernel
theorem d_Modl_contentOf_2 : decode c_Modl_contentOf 2 = .ok (.iconst 0, 1) := by decide +kernel
theorem d_Modl_contentOf_3 : decode c_Modl_contentOf 3 = .ok (.istore 4, 2) := by decide +kernel
theorem d_Modl_contentOf_5 : decode c_Modl_contentOf 5 = .ok (.iload 4, 2) := by decide +kernel
theorem d_Modl_contentOf_7 : decode c_Modl_contentOf 7 = .ok (.iload_n 1, 1) := by decide +kernel
theorem d_Modl_contentOf_8 : decode c_Modl_contentOf 8 = .ok (.if_icmp .gt 18, 3) := by decide +kernel
theorem d_Modl_contentOf_11 : decode c_Modl_contentOf 11 = .ok (.lload_n 2, 1) := by decide +kernel
theorem d_Modl_contentOf_12 : decode c_Modl_contentOf 12 = .ok (.aload_n 0, 1) := by decide +kernel
theorem d_Modl_contentOf_13 : decode c_Modl_contentOf 13 = .ok (.iload 4, 2) := by decide +kernel
theorem d_Modl_contentOf_15 : decode c_Modl_contentOf 15 = .ok (.laload, 1) := by decide +kernel
theorem d_Modl_contentOf_16 : decode c_Modl_contentOf 16 = .ok (.invokestatic 149, 3) := by decide +kernel
theorem d_Modl_contentOf_19 : decode c_Modl_contentOf 19 = .ok (.lstore_n 2, 1) := by decide +kernel
theorem d_Modl_contentOf_20 : decode c_Modl_contentOf 20 = .ok (.iinc 4 1, 3) := by decide +kernel
theorem d_Modl_contentOf_23 : decode c_Modl_contentOf 23 = .ok (.goto (-18), 3) := by decide +kernel
theorem d_Modl_contentOf_26 : decode c_Modl_contentOf 26 = .ok (.aload_n 0, 1) := by decide +kernel
theorem d_Modl_contentOf_27 : decode c_Modl_contentOf 27 = .ok (.iload_n 1, 1) := by decide +kernel
theorem d_Modl_contentOf_28 : decode c_Modl_contentOf 28 = .ok (.laload, 1) := by decide +kernel
theorem d_Modl_contentOf_29 : decode c_Modl_contentOf 29 = .ok (.lconst 0, 1) := by decide +kernel
theorem d_Modl_contentOf_30 : decode c_Modl_contentOf 30 = .ok (.lcmp, 1) := by decide +kernel
theorem d_Modl_contentOf_31 : decode c_Modl_contentOf 31 = .ok (.ifCond .ge 8, 3) := by decide +kernel
theorem d_Modl_contentOf_34 : decode c_Modl_contentOf 34 = .ok (.lload_n 2, 1) := by decide +kernel
theorem d_Modl_contentOf_35 : decode c_Modl_contentOf 35 = .ok (.lneg, 1) := by decide +kernel
theorem d_Modl_contentOf_36 : decode c_Modl_contentOf 36 = .ok (.goto 4, 3) := by decide +kernel
theorem d_Modl_contentOf_39 : decode c_Modl_contentOf 39 = .ok (.lload_n 2, 1) := by decide +kernel
theorem d_Modl_contentOf_40 : decode c_Modl_contentOf 40 = .ok (.lreturn, 1) := by decide +kernel
abbrev c_Modl_content : ByteArray := prog_11_method_56_code
abbrev y_Modl_content : MethodName := ⟨"FactorDeskModel", "content", "()J"⟩
theorem d_Modl_content_0 : decode c_Modl_content 0 = .ok (.aload_n 0, 1) := by decide +kernel
theorem d_Modl_content_1 : decode c_Modl_content 1 = .ok (.iconst 0, 1) := by decide +kernel
theorem d_Modl_content_2 : decode c_Modl_content 2 = .ok (.putfield 82, 3) := by decide +kernel
theorem d_Modl_content_5 : decode c_Modl_content 5 = .ok (.aload_n 0, 1) := by decide +kernel
theorem d_Modl_content_6 : decode c_Modl_content 6 = .ok (.getfield 13, 3) := by decide +kernel
theorem d_Modl_content_9 : decode c_Modl_content 9 = .ok (.aload_n 0, 1) := by decide +kernel
theorem d_Modl_content_10 : decode c_Modl_content 10 = .ok (.getfield 153, 3) := by decide +kernel
theorem d_Modl_content_13 : decode c_Modl_content 13 = .ok (.invokestatic 156, 3) := by decide +kernel
theorem d_Modl_content_16 : decode c_Modl_content 16 = .ok (.lreturn, 1) := by decide +kernel
abbrev c_Modl_at : ByteArray := prog_11_method_54_code
abbrev y_Modl_at : MethodName := ⟨"FactorDeskModel", "at", "(I)I"⟩
theorem d_Modl_at_0 : decode c_Modl_at 0 = .ok (.aload_n 0, 1) := by decide +kernel
theorem d_Modl_at_1 : decode c_Modl_at 1 = .ok (.iload_n 1, 1) := by decide +kernel
theorem d_Modl_at_2 : decode c_Modl_at 2 = .ok (.ifCond .lt 9, 3) := by decide +kernel
theorem d_Modl_at_5 : decode c_Modl_at 5 = .ok (.iload_n 1, 1) := by decide +kernel
theorem d_Modl_at_6 : decode c_Modl_at 6 = .ok (.bipush 12, 2) := by decide +kernel
theorem d_Modl_at_8 : decode c_Modl_at 8 = .ok (.if_icmp .le 7, 3) := by decide +kernel
theorem d_Modl_at_11 : decode c_Modl_at 11 = .ok (.iconst 1, 1) := by decide +kernel
theorem d_Modl_at_12 : decode c_Modl_at 12 = .ok (.goto 4, 3) := by decide +kernel
theorem d_Modl_at_15 : decode c_Modl_at 15 = .ok (.iconst 0, 1) := by decide +kernel
theorem d_Modl_at_16 : decode c_Modl_at 16 = .ok (.iconst 1, 1) := by decide +kernel
theorem d_Modl_at_17 : decode c_Modl_at 17 = .ok (.invokevirtual 274, 3) := by decide +kernel
theorem d_Modl_at_20 : decode c_Modl_at 20 = .ok (.ifCond .eq 7, 3) := by decide +kernel
theorem d_Modl_at_23 : decode c_Modl_at 23 = .ok (.iconst 0, 1) := by decide +kernel
theorem d_Modl_at_24 : decode c_Modl_at 24 = .ok (.goto 10, 3) := by decide +kernel
theorem d_Modl_at_27 : decode c_Modl_at 27 = .ok (.aload_n 0, 1) := by decide +kernel
theorem d_Modl_at_28 : decode c_Modl_at 28 = .ok (.getfield 13, 3) := by decide +kernel
theorem d_Modl_at_31 : decode c_Modl_at 31 = .ok (.iload_n 1, 1) := by decide +kernel
theorem d_Modl_at_32 : decode c_Modl_at 32 = .ok (.laload, 1) := by decide +kernel
theorem d_Modl_at_33 : decode c_Modl_at 33 = .ok (.l2i, 1) := by decide +kernel
theorem d_Modl_at_34 : decode c_Modl_at 34 = .ok (.ireturn, 1) := by decide +kernel
abbrev c_Modl_factor : ByteArray := prog_11_method_58_code
abbrev y_Modl_factor : MethodName := ⟨"FactorDeskModel", "factor", "(II)I"⟩
theorem d_Modl_factor_0 : decode c_Modl_factor 0 = .ok (.aload_n 0, 1) := by decide +kernel
theorem d_Modl_factor_1 : decode c_Modl_factor 1 = .ok (.iload_n 1, 1) := by decide +kernel
theorem d_Modl_factor_2 : decode c_Modl_factor 2 = .ok (.ifCond .lt 20, 3) := by decide +kernel
theorem d_Modl_factor_5 : decode c_Modl_factor 5 = .ok (.iload_n 1, 1) := by decide +kernel
theorem d_Modl_factor_6 : decode c_Modl_factor 6 = .ok (.aload_n 0, 1) := by decide +kernel
theorem d_Modl_factor_7 : decode c_Modl_factor 7 = .ok (.getfield 293, 3) := by decide +kernel
theorem d_Modl_factor_10 : decode c_Modl_factor 10 = .ok (.if_icmp .ge 12, 3) := by decide +kernel
theorem d_Modl_factor_13 : decode c_Modl_factor 13 = .ok (.iload_n 2, 1) := by decide +kernel
theorem d_Modl_factor_14 : decode c_Modl_factor 14 = .ok (.ifCond .lt 8, 3) := by decide +kernel
theorem d_Modl_factor_17 : decode c_Modl_factor 17 = .ok (.iload_n 2, 1) := by decide +kernel
theorem d_Modl_factor_18 : decode c_Modl_factor 18 = .ok (.iconst 1, 1) := by decide +kernel
theorem d_Modl_factor_19 : decode c_Modl_factor 19 = .ok (.if_icmp .le 7, 3) := by decide +kernel
theorem d_Modl_factor_22 : decode c_Modl_factor 22 = .ok (.iconst 1, 1) := by decide +kernel
theorem d_Modl_factor_23 : decode c_Modl_factor 23 = .ok (.goto 4, 3) := by decide +kernel
theorem d_Modl_factor_26 : decode c_Modl_factor 26 = .ok (.iconst 0, 1) := by decide +kernel
theorem d_Modl_factor_27 : decode c_Modl_factor 27 = .ok (.iconst 1, 1) := by decide +kernel
theorem d_Modl_factor_28 : decode c_Modl_factor 28 = .ok (.invokevirtual 274, 3) := by decide +kernel
theorem d_Modl_factor_31 : decode c_Modl_factor 31 = .ok (.ifCond .eq 5, 3) := by decide +kernel
theorem d_Modl_factor_34 : decode c_Modl_factor 34 = .ok (.iconst 0, 1) := by decide +kernel
theorem d_Modl_factor_35 : decode c_Modl_factor 35 = .ok (.ireturn, 1) := by decide +kernel
theorem d_Modl_factor_36 : decode c_Modl_factor 36 = .ok (.iload_n 2, 1) := by decide +kernel
theorem d_Modl_factor_37 : decode c_Modl_factor 37 = .ok (.ifCond .ne 12, 3) := by decide +kernel
theorem d_Modl_factor_40 : decode c_Modl_factor 40 = .ok (.aload_n 0, 1) := by decide +kernel
theorem d_Modl_factor_41 : decode c_Modl_factor 41 = .ok (.getfield 22, 3) := by decide +kernel
theorem d_Modl_factor_44 : decode c_Modl_factor 44 = .ok (.iload_n 1, 1) := by decide +kernel
theorem d_Modl_factor_45 : decode c_Modl_factor 45 = .ok (.iaload, 1) := by decide +kernel
theorem d_Modl_factor_46 : decode c_Modl_factor 46 = .ok (.goto 9, 3) := by decide +kernel
theorem d_Modl_factor_49 : decode c_Modl_factor 49 = .ok (.aload_n 0, 1) := by decide +kernel
theorem d_Modl_factor_50 : decode c_Modl_factor 50 = .ok (.getfield 26, 3) := by decide +kernel
theorem d_Modl_factor_53 : decode c_Modl_factor 53 = .ok (.iload_n 1, 1) := by decide +kernel
theorem d_Modl_factor_54 : decode c_Modl_factor 54 = .ok (.iaload, 1) := by decide +kernel
theorem d_Modl_factor_55 : decode c_Modl_factor 55 = .ok (.ireturn, 1) := by decide +kernel
abbrev c_Modl_part : ByteArray := prog_11_method_59_code
abbrev y_Modl_part : MethodName := ⟨"FactorDeskModel", "part", "(II)J"⟩
theorem d_Modl_part_0 : decode c_Modl_part 0 = .ok (.aload_n 0, 1) := by decide +kernel
theorem d_Modl_part_1 : decode c_Modl_part 1 = .ok (.iload_n 1, 1) := by decide +kernel
theorem d_Modl_part_2 : decode c_Modl_part 2 = .ok (.ifCond .lt 15, 3) := by decide +kernel
theorem d_Modl_part_5 : decode c_Modl_part 5 = .ok (.iload_n 1, 1) := by decide +kernel
theorem d_Modl_part_6 : decode c_Modl_part 6 = .ok (.aload_n 0, 1) := by decide +kernel
theorem d_Modl_part_7 : decode c_Modl_part 7 = .ok (.getfield 293, 3) := by decide +kernel
theorem d_Modl_part_10 : decode c_Modl_part 10 = .ok (.if_icmp .ge 7, 3) := by decide +kernel
theorem d_Modl_part_13 : decode c_Modl_part 13 = .ok (.iload_n 2, 1) := by decide +kernel
theorem d_Modl_part_14 : decode c_Modl_part 14 = .ok (.ifCond .ge 7, 3) := by decide +kernel
theorem d_Modl_part_17 : decode c_Modl_part 17 = .ok (.iconst 1, 1) := by decide +kernel
theorem d_Modl_part_18 : decode c_Modl_part 18 = .ok (.goto 4, 3) := by decide +kernel
theorem d_Modl_part_21 : decode c_Modl_part 21 = .ok (.iconst 0, 1) := by decide +kernel
theorem d_Modl_part_22 : decode c_Modl_part 22 = .ok (.iconst 1, 1) := by decide +kernel
theorem d_Modl_part_23 : decode c_Modl_part 23 = .ok (.invokevirtual 274, 3) := by decide +kernel
theorem d_Modl_part_26 : decode c_Modl_part 26 = .ok (.ifCond .ne 26, 3) := by decide +kernel
theorem d_Modl_part_29 : decode c_Modl_part 29 = .ok (.aload_n 0, 1) := by decide +kernel
theorem d_Modl_part_30 : decode c_Modl_part 30 = .ok (.iload_n 2, 1) := by decide +kernel
theorem d_Modl_part_31 : decode c_Modl_part 31 = .ok (.aload_n 0, 1) := by decide +kernel
theorem d_Modl_part_32 : decode c_Modl_part 32 = .ok (.getfield 22, 3) := by decide +kernel
theorem d_Modl_part_35 : decode c_Modl_part 35 = .ok (.iload_n 1, 1) := by decide +kernel
theorem d_Modl_part_36 : decode c_Modl_part 36 = .ok (.iaload, 1) := by decide +kernel
theorem d_Modl_part_37 : decode c_Modl_part 37 = .ok (.if_icmp .le 7, 3) := by decide +kernel
theorem d_Modl_part_40 : decode c_Modl_part 40 = .ok (.iconst 1, 1) := by decide +kernel
theorem d_Modl_part_41 : decode c_Modl_part 41 = .ok (.goto 4, 3) := by decide +kernel
theorem d_Modl_part_44 : decode c_Modl_part 44 = .ok (.iconst 0, 1) := by decide +kernel
theorem d_Modl_part_45 : decode c_Modl_part 45 = .ok (.iconst 1, 1) := by decide +kernel
theorem d_Modl_part_46 : decode c_Modl_part 46 = .ok (.invokevirtual 274, 3) := by decide +kernel
theorem d_Modl_part_49 : decode c_Modl_part 49 = .ok (.ifCond .eq 5, 3) := by decide +kernel
theorem d_Modl_part_52 : decode c_Modl_part 52 = .ok (.lconst 0, 1) := by decide +kernel
theorem d_Modl_part_53 : decode c_Modl_part 53 = .ok (.lreturn, 1) := by decide +kernel
theorem d_Modl_part_54 : decode c_Modl_part 54 = .ok (.aload_n 0, 1) := by decide +kernel
theorem d_Modl_part_55 : decode c_Modl_part 55 = .ok (.getfield 19, 3) := by decide +kernel
theorem d_Modl_part_58 : decode c_Modl_part 58 = .ok (.bipush 13, 2) := by decide +kernel
theorem d_Modl_part_60 : decode c_Modl_part 60 = .ok (.iload_n 1, 1) := by decide +kernel
theorem d_Modl_part_61 : decode c_Modl_part 61 = .ok (.imul, 1) := by decide +kernel
theorem d_Modl_part_62 : decode c_Modl_part 62 = .ok (.iload_n 2, 1) := by decide +kernel
theorem d_Modl_part_63 : decode c_Modl_part 63 = .ok (.iadd, 1) := by decide +kernel
theorem d_Modl_part_64 : decode c_Modl_part 64 = .ok (.laload, 1) := by decide +kernel
theorem d_Modl_part_65 : decode c_Modl_part 65 = .ok (.lreturn, 1) := by decide +kernel
abbrev c_Modl_isIrreducible : ByteArray := prog_11_method_60_code
abbrev y_Modl_isIrreducible : MethodName := ⟨"FactorDeskModel", "isIrreducible", "()Z"⟩
theorem d_Modl_isIrreducible_0 : decode c_Modl_isIrreducible 0 = .ok (.aload_n 0, 1) := by decide +kernel
theorem d_Modl_isIrreducible_1 : decode c_Modl_isIrreducible 1 = .ok (.iconst 0, 1) := by decide +kernel
theorem d_Modl_isIrreducible_2 : decode c_Modl_isIrreducible 2 = .ok (.putfield 82, 3) := by decide +kernel
theorem d_Modl_isIrreducible_5 : decode c_Modl_isIrreducible 5 = .ok (.aload_n 0, 1) := by decide +kernel
theorem d_Modl_isIrreducible_6 : decode c_Modl_isIrreducible 6 = .ok (.getfield 153, 3) := by decide +kernel
theorem d_Modl_isIrreducible_9 : decode c_Modl_isIrreducible 9 = .ok (.ifCond .eq 19, 3) := by decide +kernel
theorem d_Modl_isIrreducible_12 : decode c_Modl_isIrreducible 12 = .ok (.aload_n 0, 1) := by decide +kernel
theorem d_Modl_isIrreducible_13 : decode c_Modl_isIrreducible 13 = .ok (.getfield 13, 3) := by decide +kernel
theorem d_Modl_isIrreducible_16 : decode c_Modl_isIrreducible 16 = .ok (.aload_n 0, 1) := by decide +kernel
theorem d_Modl_isIrreducible_17 : decode c_Modl_isIrreducible 17 = .ok (.getfield 153, 3) := by decide +kernel
theorem d_Modl_isIrreducible_20 : decode c_Modl_isIrreducible 20 = .ok (.invokestatic 156, 3) := by decide +kernel
theorem d_Modl_isIrreducible_23 : decode c_Modl_isIrreducible 23 = .ok (.lconst 1, 1) := by decide +kernel
theorem d_Modl_isIrreducible_24 : decode c_Modl_isIrreducible 24 = .ok (.lcmp, 1) := by decide +kernel
theorem d_Modl_isIrreducible_25 : decode c_Modl_isIrreducible 25 = .ok (.ifCond .eq 5, 3) := by decide +kernel
theorem d_Modl_isIrreducible_28 : decode c_Modl_isIrreducible 28 = .ok (.iconst 0, 1) := by decide +kernel
theorem d_Modl_isIrreducible_29 : decode c_Modl_isIrreducible 29 = .ok (.ireturn, 1) := by decide +kernel
theorem d_Modl_isIrreducible_30 : decode c_Modl_isIrreducible 30 = .ok (.aload_n 0, 1) := by decide +kernel
theorem d_Modl_isIrreducible_31 : decode c_Modl_isIrreducible 31 = .ok (.invokevirtual 290, 3) := by decide +kernel
theorem d_Modl_isIrreducible_34 : decode c_Modl_isIrreducible 34 = .ok (.aload_n 0, 1) := by decide +kernel
theorem d_Modl_isIrreducible_35 : decode c_Modl_isIrreducible 35 = .ok (.getfield 243, 3) := by decide +kernel
theorem d_Modl_isIrreducible_38 : decode c_Modl_isIrreducible 38 = .ok (.iconst 1, 1) := by decide +kernel
theorem d_Modl_isIrreducible_39 : decode c_Modl_isIrreducible 39 = .ok (.if_icmp .ne 17, 3) := by decide +kernel
theorem d_Modl_isIrreducible_42 : decode c_Modl_isIrreducible 42 = .ok (.aload_n 0, 1) := by decide +kernel
theorem d_Modl_isIrreducible_43 : decode c_Modl_isIrreducible 43 = .ok (.getfield 35, 3) := by decide +kernel
theorem d_Modl_isIrreducible_46 : decode c_Modl_isIrreducible 46 = .ok (.iconst 0, 1) := by decide +kernel
theorem d_Modl_isIrreducible_47 : decode c_Modl_isIrreducible 47 = .ok (.iaload, 1) := by decide +kernel
theorem d_Modl_isIrreducible_48 : decode c_Modl_isIrreducible 48 = .ok (.iconst 1, 1) := by decide +kernel
theorem d_Modl_isIrreducible_49 : decode c_Modl_isIrreducible 49 = .ok (.if_icmp .ne 7, 3) := by decide +kernel
theorem d_Modl_isIrreducible_52 : decode c_Modl_isIrreducible 52 = .ok (.iconst 1, 1) := by decide +kernel
theorem d_Modl_isIrreducible_53 : decode c_Modl_isIrreducible 53 = .ok (.goto 4, 3) := by decide +kernel
theorem d_Modl_isIrreducible_56 : decode c_Modl_isIrreducible 56 = .ok (.iconst 0, 1) := by decide +kernel
theorem d_Modl_isIrreducible_57 : decode c_Modl_isIrreducible 57 = .ok (.ireturn, 1) := by decide +kernel
abbrev c_Modl_divisor : ByteArray := prog_11_method_63_code
abbrev y_Modl_divisor : MethodName := ⟨"FactorDeskModel", "divisor", "(I)J"⟩
theorem d_Modl_divisor_0 : decode c_Modl_divisor 0 = .ok (.aload_n 0, 1) := by decide +kernel
theorem d_Modl_divisor_1 : decode c_Modl_divisor 1 = .ok (.iload_n 1, 1) := by decide +kernel
theorem d_Modl_divisor_2 : decode c_Modl_divisor 2 = .ok (.ifCond .lt 11, 3) := by decide +kernel
theorem d_Modl_divisor_5 : decode c_Modl_divisor 5 = .ok (.iload_n 1, 1) := by decide +kernel
theorem d_Modl_divisor_6 : decode c_Modl_divisor 6 = .ok (.aload_n 0, 1) := by decide +kernel
theorem d_Modl_divisor_7 : decode c_Modl_divisor 7 = .ok (.getfield 296, 3) := by decide +kernel
theorem d_Modl_divisor_10 : decode c_Modl_divisor 10 = .ok (.if_icmp .le 7, 3) := by decide +kernel
theorem d_Modl_divisor_13 : decode c_Modl_divisor 13 = .ok (.iconst 1, 1) := by decide +kernel
theorem d_Modl_divisor_14 : decode c_Modl_divisor 14 = .ok (.goto 4, 3) := by decide +kernel
theorem d_Modl_divisor_17 : decode c_Modl_divisor 17 = .ok (.iconst 0, 1) := by decide +kernel
theorem d_Modl_divisor_18 : decode c_Modl_divisor 18 = .ok (.iconst 1, 1) := by decide +kernel
theorem d_Modl_divisor_19 : decode c_Modl_divisor 19 = .ok (.invokevirtual 274, 3) := by decide +kernel
theorem d_Modl_divisor_22 : decode c_Modl_divisor 22 = .ok (.ifCond .eq 7, 3) := by decide +kernel
theorem d_Modl_divisor_25 : decode c_Modl_divisor 25 = .ok (.lconst 0, 1) := by decide +kernel
theorem d_Modl_divisor_26 : decode c_Modl_divisor 26 = .ok (.goto 9, 3) := by decide +kernel
theorem d_Modl_divisor_29 : decode c_Modl_divisor 29 = .ok (.aload_n 0, 1) := by decide +kernel
theorem d_Modl_divisor_30 : decode c_Modl_divisor 30 = .ok (.getfield 16, 3) := by decide +kernel
theorem d_Modl_divisor_33 : decode c_Modl_divisor 33 = .ok (.iload_n 1, 1) := by decide +kernel
theorem d_Modl_divisor_34 : decode c_Modl_divisor 34 = .ok (.laload, 1) := by decide +kernel
theorem d_Modl_divisor_35 : decode c_Modl_divisor 35 = .ok (.lreturn, 1) := by decide +kernel
theorem g_855 : jG (Jvm.Cond.fieldLink "FactorDeskModel" (82 : Nat) "FactorDeskModel" "thrown" "I") := jG_of 920 (by decide +kernel) (by decide +kernel)
theorem g_857 : jG (Jvm.Cond.fieldLink "FactorDeskModel" (271 : Nat) "FactorDeskModel" "taped" "I") := jG_of 922 (by decide +kernel) (by decide +kernel)
theorem g_970 : jG (Jvm.Cond.methodLink "FactorDeskModel" (274 : Nat) ({ cls := "FactorDeskModel", name := "fails", desc := "(ZI)Z" } : Jvm.MethodName)) := jG_of 1035 (by decide +kernel) (by decide +kernel)
theorem g_973 : jG (Jvm.Cond.code ({ cls := "FactorDeskModel", name := "fails", desc := "(ZI)Z" } : Jvm.MethodName) prog_11_method_3_code (3 : Nat) (Option.some Jvm.ClassFile.FieldType.boolean)) := jG_of 1038 (by decide +kernel) (by decide +kernel)
theorem g_10 : jG (Jvm.Cond.initialized "FactorDeskModel") := jG_of 75 (by decide +kernel) (by decide +kernel)
theorem g_972 : jG (Jvm.Cond.instanceMethod ({ cls := "FactorDeskModel", name := "fails", desc := "(ZI)Z" } : Jvm.MethodName)) := jG_of 1037 (by decide +kernel) (by decide +kernel)
theorem gp_23 : jG (Jvm.Cond.selects "FactorDeskModel" ({ cls := "FactorDeskModel", name := "fails", desc := "(ZI)Z" } : Jvm.MethodName) ({ cls := "FactorDeskModel", name := "fails", desc := "(ZI)Z" } : Jvm.MethodName)) := jG_of 23 (by decide +kernel) (by decide +kernel)
theorem g_982 : jG (Jvm.Cond.methodLink "FactorDeskModel" (278 : Nat) ({ cls := "FactorDeskModel", name := "tapeDegree", desc := "()I" } : Jvm.MethodName)) := jG_of 1047 (by decide +kernel) (by decide +kernel)
theorem g_985 : jG (Jvm.Cond.code ({ cls := "FactorDeskModel", name := "tapeDegree", desc := "()I" } : Jvm.MethodName) prog_11_method_51_code (2 : Nat) (Option.some Jvm.ClassFile.FieldType.int)) := jG_of 1050 (by decide +kernel) (by decide +kernel)
theorem g_984 : jG (Jvm.Cond.instanceMethod ({ cls := "FactorDeskModel", name := "tapeDegree", desc := "()I" } : Jvm.MethodName)) := jG_of 1049 (by decide +kernel) (by decide +kernel)
theorem gp_24 : jG (Jvm.Cond.selects "FactorDeskModel" ({ cls := "FactorDeskModel", name := "tapeDegree", desc := "()I" } : Jvm.MethodName) ({ cls := "FactorDeskModel", name := "tapeDegree", desc := "()I" } : Jvm.MethodName)) := jG_of 24 (by decide +kernel) (by decide +kernel)
theorem g_859 : jG (Jvm.Cond.fieldLink "FactorDeskModel" (153 : Nat) "FactorDeskModel" "high" "I") := jG_of 924 (by decide +kernel) (by decide +kernel)
theorem g_1009 : jG (Jvm.Cond.methodLink "FactorDeskModel" (149 : Nat) ({ cls := "FactorDeskModel", name := "gcd", desc := "(JJ)J" } : Jvm.MethodName)) := jG_of 1074 (by decide +kernel) (by decide +kernel)
theorem g_1011 : jG (Jvm.Cond.code ({ cls := "FactorDeskModel", name := "gcd", desc := "(JJ)J" } : Jvm.MethodName) prog_11_method_26_code (10 : Nat) (Option.some Jvm.ClassFile.FieldType.long)) := jG_of 1076 (by decide +kernel) (by decide +kernel)
theorem g_1010 : jG (Jvm.Cond.static ({ cls := "FactorDeskModel", name := "gcd", desc := "(JJ)J" } : Jvm.MethodName)) := jG_of 1075 (by decide +kernel) (by decide +kernel)
theorem g_1006 : jG (Jvm.Cond.methodLink "FactorDeskModel" (156 : Nat) ({ cls := "FactorDeskModel", name := "contentOf", desc := "([JI)J" } : Jvm.MethodName)) := jG_of 1071 (by decide +kernel) (by decide +kernel)
theorem g_1008 : jG (Jvm.Cond.code ({ cls := "FactorDeskModel", name := "contentOf", desc := "([JI)J" } : Jvm.MethodName) prog_11_method_27_code (5 : Nat) (Option.some Jvm.ClassFile.FieldType.long)) := jG_of 1073 (by decide +kernel) (by decide +kernel)
theorem g_1007 : jG (Jvm.Cond.static ({ cls := "FactorDeskModel", name := "contentOf", desc := "([JI)J" } : Jvm.MethodName)) := jG_of 1072 (by decide +kernel) (by decide +kernel)
theorem g_862 : jG (Jvm.Cond.fieldLink "FactorDeskModel" (293 : Nat) "FactorDeskModel" "shown" "I") := jG_of 927 (by decide +kernel) (by decide +kernel)
theorem g_861 : jG (Jvm.Cond.fieldLink "FactorDeskModel" (296 : Nat) "FactorDeskModel" "divisorDegree" "I") := jG_of 926 (by decide +kernel) (by decide +kernel)
abbrev jMT (mm : Nat) : List Value := [.ref (mm + 1), .int 0, .ref (mm + 2), .int 0, .ref (mm + 3), .int 0, .int 0, .ref (mm + 4), .ref (mm + 5), .ref (mm + 6), .int 0, .ref (mm + 7), .ref (mm + 8), .ref (mm + 9), .int 0, .int 0, .ref (mm + 10), .ref (mm + 11), .ref (mm + 12), .ref (mm + 13), .ref (mm + 14), .ref (mm + 15), .long 1, .int 0, .ref (mm + 16), .ref (mm + 17), .ref (mm + 18), .int 0, .long 0, .ref (mm + 19), .ref (mm + 20), .ref (mm + 21), .ref (mm + 22), .long 0]
def jModl (Y : Nat → ClassId) (h : jH) (mm : Nat) : Prop := h mm = some (.inr (9, [.int 0, .ref (mm + 1), .int 0, .ref (mm + 2), .int 0, .ref (mm + 3), .int 0, .int 0, .ref (mm + 4), .ref (mm + 5), .ref (mm + 6), .int 0, .ref (mm + 7), .ref (mm + 8), .ref (mm + 9), .int 0, .int 0, .ref (mm + 10), .ref (mm + 11), .ref (mm + 12), .ref (mm + 13), .ref (mm + 14), .ref (mm + 15), .long 1, .int 0, .ref (mm + 16), .ref (mm + 17), .ref (mm + 18), .int 0, .long 0, .ref (mm + 19), .ref (mm + 20), .ref (mm + 21), .ref (mm + 22), .long 0])) ∧ h (mm + 1) = some (.inl (Y 1, 13, .inr (.inl (fun _ => 0)))) ∧ h (mm + 2) = some (.inl (Y 1, 13, .inr (.inl jOne))) ∧ h (mm + 3) = some (.inl (Y 1, 13, .inr (.inl jOne))) ∧ h (mm + 4) = some (.inl (Y 1, 156, .inr (.inl (fun _ => 0)))) ∧ h (mm + 5) = some (.inl (Y 0, 12, .inl (fun _ => 0))) ∧ h (mm + 6) = some (.inl (Y 0, 12, .inl (fun _ => 0))) ∧ h (mm + 7) = some (.inl (Y 1, 156, .inr (.inl (fun _ => 0)))) ∧ h (mm + 8) = some (.inl (Y 0, 12, .inl (fun _ => 0))) ∧ h (mm + 9) = some (.inl (Y 0, 12, .inl (fun _ => 0))) ∧ h (mm + 18) = some (.inl (Y 1, 13, .inr (.inl (fun _ => 0)))) ∧ h (mm + 19) = some (.inl (Y 1, 13, .inr (.inl (fun _ => 0)))) ∧ h (mm + 22) = some (.inl (Y 1, 13, .inr (.inl (fun _ => 0))))
set_option maxHeartbeats 4000000 in
set_option maxRecDepth 100000 in
theorem k_fails0 (l : Launch) {b : Nat} {D : va_G} {Y : Nat → ClassId} {s0 : State} (Z : jS0 b D Y s0) (mm n : Nat) (v0 : Value) (tl : List Value) (c0 : Int32) (h : jH) (H0 : h mm = some (.inr (9, v0 :: tl))) : jMet l D s0 y_Modl_fails c_Modl_fails 3 (some .boolean) 1 [.ref mm, .int 0, .int c0] h n 0 0 (fun r h2 n2 => r = some (.int 0) ∧ n = n2 ∧ h2 mm = some (.inr (9, .int 0 :: tl)) ∧ ∀ x, x ≠ mm → h2 x = h x) := by
  refine jMet_of Z (by decide) (Nat.le_of_ble_eq_true rfl) ?_
  intro p e s m below meth c
  refine j_aload_n d_Modl_fails_0 0 rfl ?_
  refine j_iload_n d_Modl_fails_1 1 rfl ?_
  refine j_if_eq_t (tgt := 9) d_Modl_fails_2 (by decide) (by decide) ?_
  refine j_iconst d_Modl_fails_9 (v := 0) (by decide) ?_
  refine j_put iw_Modl t_Modl t_Modl_ok n_Modl (ci := 9) (kf := 0) rfl (by decide) g_855 rfl (t_Modl_ok 0 (by decide)) rfl rfl d_Modl_fails_10 H0 (Nat.le_of_ble_eq_true rfl) ?_
  refine j_upx (by simp only [List.set_cons_succ, List.set_cons_zero]; rfl) ?_
  refine j_iload_n d_Modl_fails_13 1 rfl ?_
  exact j_zret rfl (by decide) d_Modl_fails_14 ⟨rfl, rfl, (jh_up_s _ _ _), fun x h1 => (jh_up_n _ _ (by omega))⟩
set_option maxHeartbeats 4000000 in
set_option maxRecDepth 100000 in
theorem k_fails1 (l : Launch) {b : Nat} {D : va_G} {Y : Nat → ClassId} {s0 : State} (Z : jS0 b D Y s0) (mm n : Nat) (v0 : Value) (tl : List Value) (c0 : Int32) (h : jH) (H0 : h mm = some (.inr (9, v0 :: tl))) : jMet l D s0 y_Modl_fails c_Modl_fails 3 (some .boolean) 1 [.ref mm, .int 1, .int c0] h n 0 0 (fun r h2 n2 => r = some (.int 1) ∧ n = n2 ∧ h2 mm = some (.inr (9, .int c0 :: tl)) ∧ ∀ x, x ≠ mm → h2 x = h x) := by
  refine jMet_of Z (by decide) (Nat.le_of_ble_eq_true rfl) ?_
  intro p e s m below meth c
  refine j_aload_n d_Modl_fails_0 0 rfl ?_
  refine j_iload_n d_Modl_fails_1 1 rfl ?_
  refine j_if_eq_f (tgt := 9) d_Modl_fails_2 (by decide) (by decide) ?_
  refine j_iload_n d_Modl_fails_5 2 rfl ?_
  refine j_goto (tgt := 10) d_Modl_fails_6 (by decide) ?_
  refine j_put iw_Modl t_Modl t_Modl_ok n_Modl (ci := 9) (kf := 0) rfl (by decide) g_855 rfl (t_Modl_ok 0 (by decide)) rfl rfl d_Modl_fails_10 H0 (Nat.le_of_ble_eq_true rfl) ?_
  refine j_upx (by simp only [List.set_cons_succ, List.set_cons_zero]; rfl) ?_
  refine j_iload_n d_Modl_fails_13 1 rfl ?_
  exact j_zret rfl (by decide) d_Modl_fails_14 ⟨rfl, rfl, (jh_up_s _ _ _), fun x h1 => (jh_up_n _ _ (by omega))⟩
set_option maxHeartbeats 4000000 in
set_option maxRecDepth 100000 in
theorem k_thrown (l : Launch) {b : Nat} {D : va_G} {Y : Nat → ClassId} {s0 : State} (Z : jS0 b D Y s0) (mm n : Nat) (v0 : Int32) (tl : List Value) (h : jH) (H0 : h mm = some (.inr (9, .int v0 :: tl))) : jMet l D s0 y_Modl_thrown c_Modl_thrown 1 (some .int) 1 [.ref mm] h n 0 0 (fun r h2 n2 => r = some (.int v0) ∧ h = h2 ∧ n = n2) := by
  refine jMet_of Z (by decide) (Nat.le_of_ble_eq_true rfl) ?_
  intro p e s m below meth c
  refine j_aload_n d_Modl_thrown_0 0 rfl ?_
  refine j_get iw_Modl (ci := 9) (kf := 0) rfl (by decide) g_855 d_Modl_thrown_1 H0 rfl ?_
  exact j_iret rfl d_Modl_thrown_4 ⟨rfl, rfl, rfl⟩
set_option maxHeartbeats 4000000 in
set_option maxRecDepth 100000 in
theorem m_put (l : Launch) {b : Nat} {D : va_G} {Y : Nat → ClassId} {s0 : State} (Z : jS0 b D Y s0) (mm n : Nat) (h : jH) (HM : jModl Y h mm) (x0 : Int32) : jMet l D s0 y_Modl_put c_Modl_put 2 (some .int) 4 [.ref mm, .int x0] h n 0 0 (fun r h2 n2 => r = some (.int 1) ∧ n = n2 ∧ (∃ fs3, h2 mm = some (.inr (9, .int 0 :: fs3))) ∧ ∀ x, (x < mm ∨ mm + 23 ≤ x) → h2 x = h x) := by
  refine jMet_of Z (by decide) (Nat.le_of_ble_eq_true rfl) ?_
  intro p e s m below meth c
  obtain ⟨M0, M1, M2, M3, M4, M5, M6, M7, M8, M9, M18, M19, M22⟩ := HM
  refine j_aload_n d_Modl_put_0 0 rfl ?_
  refine j_aload_n d_Modl_put_1 0 rfl ?_
  refine j_get iw_Modl (ci := 9) (kf := 2) rfl (by decide) g_857 d_Modl_put_2 M0 rfl ?_
  refine j_bipush d_Modl_put_5 (v := 13) (by decide) ?_
  refine j_icmp_ne_t (tgt := 14) d_Modl_put_7 (by decide) (by decide) ?_
  refine j_iconst d_Modl_put_14 (v := 0) (by decide) ?_
  refine j_iconst d_Modl_put_15 (v := 1) (by decide) ?_
  refine j_callV (k_fails0 l Z mm _ _ _ 1 _ M0) ⟨⟨Nat.le_of_ble_eq_true rfl, Nat.le_of_ble_eq_true rfl⟩, g_970, g_973, g_10, (by decide +kernel), (by decide +kernel), (show _ = some 2 from by decide +kernel)⟩ g_972 gp_23 (ci := 9) rfl M0 ⟨(by first | exact Nat.le_of_ble_eq_true rfl | (simp only [jrm]; omega)), (by first | exact Nat.le_of_ble_eq_true rfl | (simp only [jrm]; omega))⟩ (Nat.le_of_ble_eq_true rfl) d_Modl_put_16 (fun r0 h0 n0 P0 => ?_)
  obtain ⟨rfl, rfl, O0, F0⟩ := P0
  have E0_0 := (F0 (mm + 1) (by omega)).trans M1
  have E0_1 := (F0 (mm + 2) (by omega)).trans M2
  have E0_2 := (F0 (mm + 3) (by omega)).trans M3
  have E0_3 := (F0 (mm + 4) (by omega)).trans M4
  have E0_4 := (F0 (mm + 5) (by omega)).trans M5
  have E0_5 := (F0 (mm + 6) (by omega)).trans M6
  have E0_6 := (F0 (mm + 7) (by omega)).trans M7
  have E0_7 := (F0 (mm + 8) (by omega)).trans M8
  have E0_8 := (F0 (mm + 9) (by omega)).trans M9
  have E0_9 := (F0 (mm + 18) (by omega)).trans M18
  have E0_10 := (F0 (mm + 19) (by omega)).trans M19
  have E0_11 := (F0 (mm + 22) (by omega)).trans M22
  refine j_if_eq_t (tgt := 24) d_Modl_put_19 (by decide) (by decide) ?_
  refine j_aload_n d_Modl_put_24 0 rfl ?_
  refine j_get iw_Modl (ci := 9) (kf := 1) rfl (by decide) g_856 d_Modl_put_25 O0 rfl ?_
  refine j_aload_n d_Modl_put_28 0 rfl ?_
  refine j_get iw_Modl (ci := 9) (kf := 2) rfl (by decide) g_857 d_Modl_put_29 O0 rfl ?_
  refine j_iload_n d_Modl_put_32 1 rfl ?_
  refine j_i2l d_Modl_put_33 rfl ?_
  refine j_last d_Modl_put_34 E0_0 (by unfold vp_in; decide) ?_
  refine j_aload_n d_Modl_put_35 0 rfl ?_
  refine j_dup d_Modl_put_36 rfl ?_
  refine j_get iw_Modl (ci := 9) (kf := 2) rfl (by decide) g_857 d_Modl_put_37 ((jh_up_n _ _ (by omega)).trans O0) rfl ?_
  refine j_iconst d_Modl_put_40 (v := 1) (by decide) ?_
  refine j_iadd d_Modl_put_41 ?_
  refine j_put iw_Modl t_Modl t_Modl_ok n_Modl (ci := 9) (kf := 2) rfl (by decide) g_857 rfl (t_Modl_ok 2 (by decide)) rfl rfl d_Modl_put_42 ((jh_up_n _ _ (by omega)).trans O0) (Nat.le_of_ble_eq_true rfl) ?_
  refine j_upx (by simp only [List.set_cons_succ, List.set_cons_zero]; rfl) ?_
  refine j_aload_n d_Modl_put_45 0 rfl ?_
  refine j_get iw_Modl (ci := 9) (kf := 2) rfl (by decide) g_857 d_Modl_put_46 (jh_up_s _ _ _) rfl ?_
  refine j_iret rfl d_Modl_put_49 ⟨rfl, rfl, ⟨_, (jh_up_s _ _ _)⟩, fun x hx => ?_⟩
  exact ((jh_up_n _ _ (by omega)).trans ((jh_up_n _ _ (by omega)).trans (F0 x (by omega))))
set_option maxHeartbeats 4000000 in
set_option maxRecDepth 100000 in
theorem m_clear (l : Launch) {b : Nat} {D : va_G} {Y : Nat → ClassId} {s0 : State} (Z : jS0 b D Y s0) (mm n : Nat) (h : jH) (HM : jModl Y h mm) : jMet l D s0 y_Modl_clear c_Modl_clear 2 (some .int) 4 [.ref mm] h n 0 0 (fun r h2 n2 => r = some (.int 0) ∧ n = n2 ∧ (∃ fs3, h2 mm = some (.inr (9, .int 0 :: fs3))) ∧ ∀ x, (x < mm ∨ mm + 23 ≤ x) → h2 x = h x) := by
  refine jMet_of Z (by decide) (Nat.le_of_ble_eq_true rfl) ?_
  intro p e s m below meth c
  obtain ⟨M0, M1, M2, M3, M4, M5, M6, M7, M8, M9, M18, M19, M22⟩ := HM
  refine j_aload_n d_Modl_clear_0 0 rfl ?_
  refine j_iconst d_Modl_clear_1 (v := 0) (by decide) ?_
  refine j_put iw_Modl t_Modl t_Modl_ok n_Modl (ci := 9) (kf := 0) rfl (by decide) g_855 rfl (t_Modl_ok 0 (by decide)) rfl rfl d_Modl_clear_2 M0 (Nat.le_of_ble_eq_true rfl) ?_
  refine j_upx (by simp only [List.set_cons_succ, List.set_cons_zero]; rfl) ?_
  refine j_aload_n d_Modl_clear_5 0 rfl ?_
  refine j_get iw_Modl (ci := 9) (kf := 2) rfl (by decide) g_857 d_Modl_clear_6 (jh_up_s _ _ _) rfl ?_
  refine j_istore_n d_Modl_clear_9 (Nat.le_of_ble_eq_true rfl) rfl ?_
  refine j_aload_n d_Modl_clear_10 1 rfl ?_
  refine j_iconst d_Modl_clear_11 (v := 0) (by decide) ?_
  refine j_put iw_Modl t_Modl t_Modl_ok n_Modl (ci := 9) (kf := 2) rfl (by decide) g_857 rfl (t_Modl_ok 2 (by decide)) rfl rfl d_Modl_clear_12 (jh_up_s _ _ _) (Nat.le_of_ble_eq_true rfl) ?_
  refine j_upx (by simp only [List.set_cons_succ, List.set_cons_zero]; rfl) ?_
  refine j_iload_n d_Modl_clear_15 0 rfl ?_
  refine j_iret rfl d_Modl_clear_16 ⟨rfl, rfl, ⟨_, (jh_up_s _ _ _)⟩, fun x hx => ?_⟩
  exact ((jh_up_n _ _ (by omega)).trans (jh_up_n _ _ (by omega)))
set_option maxHeartbeats 4000000 in
set_option maxRecDepth 100000 in
theorem m_tapeDegree (l : Launch) {b : Nat} {D : va_G} {Y : Nat → ClassId} {s0 : State} (Z : jS0 b D Y s0) (mm n : Nat) (h : jH) (HM : jModl Y h mm) : jMet l D s0 y_Modl_tapeDegree c_Modl_tapeDegree 2 (some .int) 1 [.ref mm] h n 0 0 (fun r h2 n2 => r = some (.int (-1)) ∧ h = h2 ∧ n = n2) := by
  refine jMet_of Z (by decide) (Nat.le_of_ble_eq_true rfl) ?_
  intro p e s m below meth c
  obtain ⟨M0, M1, M2, M3, M4, M5, M6, M7, M8, M9, M18, M19, M22⟩ := HM
  refine j_aload_n d_Modl_tapeDegree_0 0 rfl ?_
  refine j_get iw_Modl (ci := 9) (kf := 2) rfl (by decide) g_857 d_Modl_tapeDegree_1 M0 rfl ?_
  refine j_iconst d_Modl_tapeDegree_4 (v := 1) (by decide) ?_
  refine j_isub d_Modl_tapeDegree_5 ?_
  refine j_istore_n d_Modl_tapeDegree_6 (Nat.le_of_ble_eq_true rfl) rfl ?_
  refine j_iload_n d_Modl_tapeDegree_7 0 rfl ?_
  refine j_if_lt_t (tgt := 28) d_Modl_tapeDegree_8 (by decide) (by decide) ?_
  refine j_iload_n d_Modl_tapeDegree_28 0 rfl ?_
  exact j_iret rfl d_Modl_tapeDegree_29 ⟨rfl, rfl, rfl⟩
set_option maxHeartbeats 4000000 in
set_option maxRecDepth 100000 in
theorem m_take (l : Launch) {b : Nat} {D : va_G} {Y : Nat → ClassId} {s0 : State} (Z : jS0 b D Y s0) (mm n : Nat) (h : jH) (HM : jModl Y h mm) : jMet l D s0 y_Modl_take c_Modl_take 3 (some .int) 4 [.ref mm] h n 0 0 (fun r h2 n2 => r = some (.int 0) ∧ n = n2 ∧ (∃ fs3, h2 mm = some (.inr (9, .int 1 :: fs3))) ∧ ∀ x, (x < mm ∨ mm + 23 ≤ x) → h2 x = h x) := by
  refine jMet_of Z (by decide) (Nat.le_of_ble_eq_true rfl) ?_
  intro p e s m below meth c
  obtain ⟨M0, M1, M2, M3, M4, M5, M6, M7, M8, M9, M18, M19, M22⟩ := HM
  refine j_aload_n d_Modl_take_0 0 rfl ?_
  refine j_callV (m_tapeDegree l Z mm _ _ ⟨M0, M1, M2, M3, M4, M5, M6, M7, M8, M9, M18, M19, M22⟩) ⟨⟨Nat.le_of_ble_eq_true rfl, Nat.le_of_ble_eq_true rfl⟩, g_982, g_985, g_10, by decide +kernel⟩ g_984 gp_24 (ci := 9) rfl M0 ⟨(by first | exact Nat.le_of_ble_eq_true rfl | (simp only [jrm]; omega)), (by first | exact Nat.le_of_ble_eq_true rfl | (simp only [jrm]; omega))⟩ (Nat.le_of_ble_eq_true rfl) d_Modl_take_1 (fun r900 h900 n900 P900 => ?_)
  obtain ⟨rfl, rfl, rfl⟩ := P900
  refine j_istore_n d_Modl_take_4 (Nat.le_of_ble_eq_true rfl) rfl ?_
  refine j_aload_n d_Modl_take_5 1 rfl ?_
  refine j_iload_n d_Modl_take_6 0 rfl ?_
  refine j_if_ge_f (tgt := 14) d_Modl_take_7 (by decide) (by decide) ?_
  refine j_iconst d_Modl_take_10 (v := 1) (by decide) ?_
  refine j_goto (tgt := 15) d_Modl_take_11 (by decide) ?_
  refine j_iconst d_Modl_take_15 (v := 1) (by decide) ?_
  refine j_callV (k_fails1 l Z mm _ _ _ 1 _ M0) ⟨⟨Nat.le_of_ble_eq_true rfl, Nat.le_of_ble_eq_true rfl⟩, g_970, g_973, g_10, (by decide +kernel), (by decide +kernel), (show _ = some 2 from by decide +kernel)⟩ g_972 gp_23 (ci := 9) rfl M0 ⟨(by first | exact Nat.le_of_ble_eq_true rfl | (simp only [jrm]; omega)), (by first | exact Nat.le_of_ble_eq_true rfl | (simp only [jrm]; omega))⟩ (Nat.le_of_ble_eq_true rfl) d_Modl_take_16 (fun r1 h1 n1 P1 => ?_)
  obtain ⟨rfl, rfl, O1, F1⟩ := P1
  have E1_0 := (F1 (mm + 1) (by omega)).trans M1
  have E1_1 := (F1 (mm + 2) (by omega)).trans M2
  have E1_2 := (F1 (mm + 3) (by omega)).trans M3
  have E1_3 := (F1 (mm + 4) (by omega)).trans M4
  have E1_4 := (F1 (mm + 5) (by omega)).trans M5
  have E1_5 := (F1 (mm + 6) (by omega)).trans M6
  have E1_6 := (F1 (mm + 7) (by omega)).trans M7
  have E1_7 := (F1 (mm + 8) (by omega)).trans M8
  have E1_8 := (F1 (mm + 9) (by omega)).trans M9
  have E1_9 := (F1 (mm + 18) (by omega)).trans M18
  have E1_10 := (F1 (mm + 19) (by omega)).trans M19
  have E1_11 := (F1 (mm + 22) (by omega)).trans M22
  refine j_if_eq_f (tgt := 24) d_Modl_take_19 (by decide) (by decide) ?_
  refine j_iconst d_Modl_take_22 (v := 0) (by decide) ?_
  refine j_iret rfl d_Modl_take_23 ⟨rfl, rfl, ⟨_, O1⟩, fun x hx => ?_⟩
  exact (F1 x (by omega))
set_option maxHeartbeats 4000000 in
set_option maxRecDepth 100000 in
theorem m_times (l : Launch) {b : Nat} {D : va_G} {Y : Nat → ClassId} {s0 : State} (Z : jS0 b D Y s0) (mm n : Nat) (h : jH) (HM : jModl Y h mm) : jMet l D s0 y_Modl_times c_Modl_times 11 (some .int) 4 [.ref mm] h n 0 0 (fun r h2 n2 => r = some (.int 0) ∧ n = n2 ∧ (∃ fs3, h2 mm = some (.inr (9, .int 1 :: fs3))) ∧ ∀ x, (x < mm ∨ mm + 23 ≤ x) → h2 x = h x) := by
  refine jMet_of Z (by decide) (Nat.le_of_ble_eq_true rfl) ?_
  intro p e s m below meth c
  obtain ⟨M0, M1, M2, M3, M4, M5, M6, M7, M8, M9, M18, M19, M22⟩ := HM
  refine j_aload_n d_Modl_times_0 0 rfl ?_
  refine j_callV (m_tapeDegree l Z mm _ _ ⟨M0, M1, M2, M3, M4, M5, M6, M7, M8, M9, M18, M19, M22⟩) ⟨⟨Nat.le_of_ble_eq_true rfl, Nat.le_of_ble_eq_true rfl⟩, g_982, g_985, g_10, by decide +kernel⟩ g_984 gp_24 (ci := 9) rfl M0 ⟨(by first | exact Nat.le_of_ble_eq_true rfl | (simp only [jrm]; omega)), (by first | exact Nat.le_of_ble_eq_true rfl | (simp only [jrm]; omega))⟩ (Nat.le_of_ble_eq_true rfl) d_Modl_times_1 (fun r900 h900 n900 P900 => ?_)
  obtain ⟨rfl, rfl, rfl⟩ := P900
  refine j_istore_n d_Modl_times_4 (Nat.le_of_ble_eq_true rfl) rfl ?_
  refine j_aload_n d_Modl_times_5 1 rfl ?_
  refine j_iload_n d_Modl_times_6 0 rfl ?_
  refine j_if_ge_f (tgt := 14) d_Modl_times_7 (by decide) (by decide) ?_
  refine j_iconst d_Modl_times_10 (v := 1) (by decide) ?_
  refine j_goto (tgt := 15) d_Modl_times_11 (by decide) ?_
  refine j_iconst d_Modl_times_15 (v := 1) (by decide) ?_
  refine j_callV (k_fails1 l Z mm _ _ _ 1 _ M0) ⟨⟨Nat.le_of_ble_eq_true rfl, Nat.le_of_ble_eq_true rfl⟩, g_970, g_973, g_10, (by decide +kernel), (by decide +kernel), (show _ = some 2 from by decide +kernel)⟩ g_972 gp_23 (ci := 9) rfl M0 ⟨(by first | exact Nat.le_of_ble_eq_true rfl | (simp only [jrm]; omega)), (by first | exact Nat.le_of_ble_eq_true rfl | (simp only [jrm]; omega))⟩ (Nat.le_of_ble_eq_true rfl) d_Modl_times_16 (fun r2 h2 n2 P2 => ?_)
  obtain ⟨rfl, rfl, O2, F2⟩ := P2
  have E2_0 := (F2 (mm + 1) (by omega)).trans M1
  have E2_1 := (F2 (mm + 2) (by omega)).trans M2
  have E2_2 := (F2 (mm + 3) (by omega)).trans M3
  have E2_3 := (F2 (mm + 4) (by omega)).trans M4
  have E2_4 := (F2 (mm + 5) (by omega)).trans M5
  have E2_5 := (F2 (mm + 6) (by omega)).trans M6
  have E2_6 := (F2 (mm + 7) (by omega)).trans M7
  have E2_7 := (F2 (mm + 8) (by omega)).trans M8
  have E2_8 := (F2 (mm + 9) (by omega)).trans M9
  have E2_9 := (F2 (mm + 18) (by omega)).trans M18
  have E2_10 := (F2 (mm + 19) (by omega)).trans M19
  have E2_11 := (F2 (mm + 22) (by omega)).trans M22
  refine j_if_ne_t (tgt := 46) d_Modl_times_19 (by decide) (by decide) ?_
  refine j_iconst d_Modl_times_46 (v := 0) (by decide) ?_
  refine j_iret rfl d_Modl_times_47 ⟨rfl, rfl, ⟨_, O2⟩, fun x hx => ?_⟩
  exact (F2 x (by omega))
set_option maxHeartbeats 4000000 in
set_option maxRecDepth 100000 in
theorem m_common (l : Launch) {b : Nat} {D : va_G} {Y : Nat → ClassId} {s0 : State} (Z : jS0 b D Y s0) (mm n : Nat) (h : jH) (HM : jModl Y h mm) : jMet l D s0 y_Modl_common c_Modl_common 6 (some .int) 4 [.ref mm] h n 0 0 (fun r h2 n2 => r = some (.int 0) ∧ n = n2 ∧ (∃ fs3, h2 mm = some (.inr (9, .int 1 :: fs3))) ∧ ∀ x, (x < mm ∨ mm + 23 ≤ x) → h2 x = h x) := by
  refine jMet_of Z (by decide) (Nat.le_of_ble_eq_true rfl) ?_
  intro p e s m below meth c
  obtain ⟨M0, M1, M2, M3, M4, M5, M6, M7, M8, M9, M18, M19, M22⟩ := HM
  refine j_aload_n d_Modl_common_0 0 rfl ?_
  refine j_callV (m_tapeDegree l Z mm _ _ ⟨M0, M1, M2, M3, M4, M5, M6, M7, M8, M9, M18, M19, M22⟩) ⟨⟨Nat.le_of_ble_eq_true rfl, Nat.le_of_ble_eq_true rfl⟩, g_982, g_985, g_10, by decide +kernel⟩ g_984 gp_24 (ci := 9) rfl M0 ⟨(by first | exact Nat.le_of_ble_eq_true rfl | (simp only [jrm]; omega)), (by first | exact Nat.le_of_ble_eq_true rfl | (simp only [jrm]; omega))⟩ (Nat.le_of_ble_eq_true rfl) d_Modl_common_1 (fun r900 h900 n900 P900 => ?_)
  obtain ⟨rfl, rfl, rfl⟩ := P900
  refine j_istore_n d_Modl_common_4 (Nat.le_of_ble_eq_true rfl) rfl ?_
  refine j_aload_n d_Modl_common_5 1 rfl ?_
  refine j_iload_n d_Modl_common_6 0 rfl ?_
  refine j_if_ge_f (tgt := 14) d_Modl_common_7 (by decide) (by decide) ?_
  refine j_iconst d_Modl_common_10 (v := 1) (by decide) ?_
  refine j_goto (tgt := 15) d_Modl_common_11 (by decide) ?_
  refine j_iconst d_Modl_common_15 (v := 1) (by decide) ?_
  refine j_callV (k_fails1 l Z mm _ _ _ 1 _ M0) ⟨⟨Nat.le_of_ble_eq_true rfl, Nat.le_of_ble_eq_true rfl⟩, g_970, g_973, g_10, (by decide +kernel), (by decide +kernel), (show _ = some 2 from by decide +kernel)⟩ g_972 gp_23 (ci := 9) rfl M0 ⟨(by first | exact Nat.le_of_ble_eq_true rfl | (simp only [jrm]; omega)), (by first | exact Nat.le_of_ble_eq_true rfl | (simp only [jrm]; omega))⟩ (Nat.le_of_ble_eq_true rfl) d_Modl_common_16 (fun r3 h3 n3 P3 => ?_)
  obtain ⟨rfl, rfl, O3, F3⟩ := P3
  have E3_0 := (F3 (mm + 1) (by omega)).trans M1
  have E3_1 := (F3 (mm + 2) (by omega)).trans M2
  have E3_2 := (F3 (mm + 3) (by omega)).trans M3
  have E3_3 := (F3 (mm + 4) (by omega)).trans M4
  have E3_4 := (F3 (mm + 5) (by omega)).trans M5
  have E3_5 := (F3 (mm + 6) (by omega)).trans M6
  have E3_6 := (F3 (mm + 7) (by omega)).trans M7
  have E3_7 := (F3 (mm + 8) (by omega)).trans M8
  have E3_8 := (F3 (mm + 9) (by omega)).trans M9
  have E3_9 := (F3 (mm + 18) (by omega)).trans M18
  have E3_10 := (F3 (mm + 19) (by omega)).trans M19
  have E3_11 := (F3 (mm + 22) (by omega)).trans M22
  refine j_if_eq_f (tgt := 24) d_Modl_common_19 (by decide) (by decide) ?_
  refine j_iconst d_Modl_common_22 (v := 0) (by decide) ?_
  refine j_iret rfl d_Modl_common_23 ⟨rfl, rfl, ⟨_, O3⟩, fun x hx => ?_⟩
  exact (F3 x (by omega))
set_option maxHeartbeats 4000000 in
set_option maxRecDepth 100000 in
theorem m_divides (l : Launch) {b : Nat} {D : va_G} {Y : Nat → ClassId} {s0 : State} (Z : jS0 b D Y s0) (mm n : Nat) (h : jH) (HM : jModl Y h mm) : jMet l D s0 y_Modl_divides c_Modl_divides 3 (some .boolean) 4 [.ref mm] h n 0 0 (fun r h2 n2 => r = some (.int 0) ∧ n = n2 ∧ (∃ fs3, h2 mm = some (.inr (9, .int 1 :: fs3))) ∧ ∀ x, (x < mm ∨ mm + 23 ≤ x) → h2 x = h x) := by
  refine jMet_of Z (by decide) (Nat.le_of_ble_eq_true rfl) ?_
  intro p e s m below meth c
  obtain ⟨M0, M1, M2, M3, M4, M5, M6, M7, M8, M9, M18, M19, M22⟩ := HM
  refine j_aload_n d_Modl_divides_0 0 rfl ?_
  refine j_callV (m_tapeDegree l Z mm _ _ ⟨M0, M1, M2, M3, M4, M5, M6, M7, M8, M9, M18, M19, M22⟩) ⟨⟨Nat.le_of_ble_eq_true rfl, Nat.le_of_ble_eq_true rfl⟩, g_982, g_985, g_10, by decide +kernel⟩ g_984 gp_24 (ci := 9) rfl M0 ⟨(by first | exact Nat.le_of_ble_eq_true rfl | (simp only [jrm]; omega)), (by first | exact Nat.le_of_ble_eq_true rfl | (simp only [jrm]; omega))⟩ (Nat.le_of_ble_eq_true rfl) d_Modl_divides_1 (fun r900 h900 n900 P900 => ?_)
  obtain ⟨rfl, rfl, rfl⟩ := P900
  refine j_istore_n d_Modl_divides_4 (Nat.le_of_ble_eq_true rfl) rfl ?_
  refine j_aload_n d_Modl_divides_5 1 rfl ?_
  refine j_iload_n d_Modl_divides_6 0 rfl ?_
  refine j_if_ge_f (tgt := 14) d_Modl_divides_7 (by decide) (by decide) ?_
  refine j_iconst d_Modl_divides_10 (v := 1) (by decide) ?_
  refine j_goto (tgt := 15) d_Modl_divides_11 (by decide) ?_
  refine j_iconst d_Modl_divides_15 (v := 1) (by decide) ?_
  refine j_callV (k_fails1 l Z mm _ _ _ 1 _ M0) ⟨⟨Nat.le_of_ble_eq_true rfl, Nat.le_of_ble_eq_true rfl⟩, g_970, g_973, g_10, (by decide +kernel), (by decide +kernel), (show _ = some 2 from by decide +kernel)⟩ g_972 gp_23 (ci := 9) rfl M0 ⟨(by first | exact Nat.le_of_ble_eq_true rfl | (simp only [jrm]; omega)), (by first | exact Nat.le_of_ble_eq_true rfl | (simp only [jrm]; omega))⟩ (Nat.le_of_ble_eq_true rfl) d_Modl_divides_16 (fun r4 h4 n4 P4 => ?_)
  obtain ⟨rfl, rfl, O4, F4⟩ := P4
  have E4_0 := (F4 (mm + 1) (by omega)).trans M1
  have E4_1 := (F4 (mm + 2) (by omega)).trans M2
  have E4_2 := (F4 (mm + 3) (by omega)).trans M3
  have E4_3 := (F4 (mm + 4) (by omega)).trans M4
  have E4_4 := (F4 (mm + 5) (by omega)).trans M5
  have E4_5 := (F4 (mm + 6) (by omega)).trans M6
  have E4_6 := (F4 (mm + 7) (by omega)).trans M7
  have E4_7 := (F4 (mm + 8) (by omega)).trans M8
  have E4_8 := (F4 (mm + 9) (by omega)).trans M9
  have E4_9 := (F4 (mm + 18) (by omega)).trans M18
  have E4_10 := (F4 (mm + 19) (by omega)).trans M19
  have E4_11 := (F4 (mm + 22) (by omega)).trans M22
  refine j_if_eq_f (tgt := 24) d_Modl_divides_19 (by decide) (by decide) ?_
  refine j_iconst d_Modl_divides_22 (v := 0) (by decide) ?_
  refine j_zret rfl (by decide) d_Modl_divides_23 ⟨rfl, rfl, ⟨_, O4⟩, fun x hx => ?_⟩
  exact (F4 x (by omega))
set_option maxHeartbeats 4000000 in
set_option maxRecDepth 100000 in
theorem m_degree (l : Launch) {b : Nat} {D : va_G} {Y : Nat → ClassId} {s0 : State} (Z : jS0 b D Y s0) (mm n : Nat) (h : jH) (HM : jModl Y h mm) : jMet l D s0 y_Modl_degree c_Modl_degree 1 (some .int) 4 [.ref mm] h n 0 0 (fun r h2 n2 => r = some (.int 0) ∧ n = n2 ∧ (∃ fs3, h2 mm = some (.inr (9, .int 0 :: fs3))) ∧ ∀ x, (x < mm ∨ mm + 23 ≤ x) → h2 x = h x) := by
  refine jMet_of Z (by decide) (Nat.le_of_ble_eq_true rfl) ?_
  intro p e s m below meth c
  obtain ⟨M0, M1, M2, M3, M4, M5, M6, M7, M8, M9, M18, M19, M22⟩ := HM
  refine j_aload_n d_Modl_degree_0 0 rfl ?_
  refine j_iconst d_Modl_degree_1 (v := 0) (by decide) ?_
  refine j_put iw_Modl t_Modl t_Modl_ok n_Modl (ci := 9) (kf := 0) rfl (by decide) g_855 rfl (t_Modl_ok 0 (by decide)) rfl rfl d_Modl_degree_2 M0 (Nat.le_of_ble_eq_true rfl) ?_
  refine j_upx (by simp only [List.set_cons_succ, List.set_cons_zero]; rfl) ?_
  refine j_aload_n d_Modl_degree_5 0 rfl ?_
  refine j_get iw_Modl (ci := 9) (kf := 4) rfl (by decide) g_859 d_Modl_degree_6 (jh_up_s _ _ _) rfl ?_
  refine j_iret rfl d_Modl_degree_9 ⟨rfl, rfl, ⟨_, (jh_up_s _ _ _)⟩, fun x hx => ?_⟩
  exact (jh_up_n _ _ (by omega))
set_option maxHeartbeats 4000000 in
set_option maxRecDepth 100000 in
theorem m_gcd01 (l : Launch) {b : Nat} {D : va_G} {Y : Nat → ClassId} {s0 : State} (Z : jS0 b D Y s0) (n : Nat) (h : jH) : jMet l D s0 y_Modl_gcd c_Modl_gcd 10 (some .long) 1 [.long 0, .long 1] h n 0 0 (fun r h2 n2 => r = some (.long 1) ∧ h = h2 ∧ n = n2) := by
  refine jMet_of Z (by decide) (Nat.le_of_ble_eq_true rfl) ?_
  intro p e s m below meth c
  refine j_lload_n d_Modl_gcd_0 0 rfl ?_
  refine j_lconst d_Modl_gcd_1 (v := 0) (by decide) ?_
  refine j_lcmp d_Modl_gcd_2 ?_
  refine j_if_ge_t (tgt := 11) d_Modl_gcd_3 (by decide) (by decide) ?_
  refine j_lload_n d_Modl_gcd_11 0 rfl ?_
  refine j_lstore d_Modl_gcd_12 (Nat.le_of_ble_eq_true rfl) rfl ?_
  refine j_lload_n d_Modl_gcd_14 2 rfl ?_
  refine j_lconst d_Modl_gcd_15 (v := 0) (by decide) ?_
  refine j_lcmp d_Modl_gcd_16 ?_
  refine j_if_ge_t (tgt := 25) d_Modl_gcd_17 (by decide) (by decide) ?_
  refine j_lload_n d_Modl_gcd_25 2 rfl ?_
  refine j_lstore d_Modl_gcd_26 (Nat.le_of_ble_eq_true rfl) rfl ?_
  refine j_lload d_Modl_gcd_28 0 rfl ?_
  refine j_lconst d_Modl_gcd_30 (v := 0) (by decide) ?_
  refine j_lcmp d_Modl_gcd_31 ?_
  refine j_if_eq_f (tgt := 53) d_Modl_gcd_32 (by decide) (by decide) ?_
  refine j_lload d_Modl_gcd_35 1 rfl ?_
  refine j_lload d_Modl_gcd_37 0 rfl ?_
  refine j_lrem d_Modl_gcd_39 (by decide) ?_
  refine j_lstore d_Modl_gcd_40 (Nat.le_of_ble_eq_true rfl) rfl ?_
  refine j_lload d_Modl_gcd_42 1 rfl ?_
  refine j_lstore d_Modl_gcd_44 (Nat.le_of_ble_eq_true rfl) rfl ?_
  refine j_lload d_Modl_gcd_46 1 rfl ?_
  refine j_lstore d_Modl_gcd_48 (Nat.le_of_ble_eq_true rfl) rfl ?_
  refine j_goto (tgt := 28) d_Modl_gcd_50 (by decide) ?_
  refine j_lload d_Modl_gcd_28 0 rfl ?_
  refine j_lconst d_Modl_gcd_30 (v := 0) (by decide) ?_
  refine j_lcmp d_Modl_gcd_31 ?_
  refine j_if_eq_t (tgt := 53) d_Modl_gcd_32 (by decide) (by decide) ?_
  refine j_lload d_Modl_gcd_53 1 rfl ?_
  exact j_lret rfl d_Modl_gcd_55 ⟨rfl, rfl, rfl⟩
set_option maxHeartbeats 4000000 in
set_option maxRecDepth 100000 in
theorem m_contentOf (l : Launch) {b : Nat} {D : va_G} {Y : Nat → ClassId} {s0 : State} (Z : jS0 b D Y s0) (q n : Nat) (h : jH) (H0 : h q = some (.inl (Y 1, 13, .inr (.inl jOne)))) : jMet l D s0 y_Modl_contentOf c_Modl_contentOf 5 (some .long) 2 [.ref q, .int 0] h n 0 0 (fun r h2 n2 => r = some (.long 1) ∧ h = h2 ∧ n = n2) := by
  refine jMet_of Z (by decide) (Nat.le_of_ble_eq_true rfl) ?_
  intro p e s m below meth c
  refine j_lconst d_Modl_contentOf_0 (v := 0) (by decide) ?_
  refine j_lstore_n d_Modl_contentOf_1 (Nat.le_of_ble_eq_true rfl) rfl ?_
  refine j_iconst d_Modl_contentOf_2 (v := 0) (by decide) ?_
  refine j_istore d_Modl_contentOf_3 (Nat.le_of_ble_eq_true rfl) rfl ?_
  refine j_iload d_Modl_contentOf_5 0 rfl ?_
  refine j_iload_n d_Modl_contentOf_7 3 rfl ?_
  refine j_icmp_gt_f (tgt := 26) d_Modl_contentOf_8 (by decide) (by decide) ?_
  refine j_lload_n d_Modl_contentOf_11 1 rfl ?_
  refine j_aload_n d_Modl_contentOf_12 2 rfl ?_
  refine j_iload d_Modl_contentOf_13 0 rfl ?_
  refine j_lald d_Modl_contentOf_15 H0 (by unfold vp_in; decide) ?_
  refine j_callS (m_gcd01 l Z _ _) ⟨⟨Nat.le_of_ble_eq_true rfl, Nat.le_of_ble_eq_true rfl⟩, g_1009, g_1011, g_10, (by decide +kernel), (by decide +kernel), (show _ = some 2 from by decide +kernel)⟩ g_1010 ⟨(by first | exact Nat.le_of_ble_eq_true rfl | (simp only [jrm]; omega)), (by first | exact Nat.le_of_ble_eq_true rfl | (simp only [jrm]; omega))⟩ (Nat.le_of_ble_eq_true rfl) d_Modl_contentOf_16 (fun r0 h0 n0 P0 => ?_)
  obtain ⟨rfl, rfl, rfl⟩ := P0
  refine j_lstore_n d_Modl_contentOf_19 (Nat.le_of_ble_eq_true rfl) rfl ?_
  refine j_iinc d_Modl_contentOf_20 1 rfl rfl (Nat.le_of_ble_eq_true rfl) rfl ?_
  refine j_goto (tgt := 5) d_Modl_contentOf_23 (by decide) ?_
  refine j_iload d_Modl_contentOf_5 0 rfl ?_
  refine j_iload_n d_Modl_contentOf_7 3 rfl ?_
  refine j_icmp_gt_t (tgt := 26) d_Modl_contentOf_8 (by decide) (by decide) ?_
  refine j_aload_n d_Modl_contentOf_26 2 rfl ?_
  refine j_iload_n d_Modl_contentOf_27 3 rfl ?_
  refine j_lald d_Modl_contentOf_28 H0 (by unfold vp_in; decide) ?_
  refine j_lconst d_Modl_contentOf_29 (v := 0) (by decide) ?_
  refine j_lcmp d_Modl_contentOf_30 ?_
  refine j_if_ge_t (tgt := 39) d_Modl_contentOf_31 (by decide) (by decide) ?_
  refine j_lload_n d_Modl_contentOf_39 1 rfl ?_
  exact j_lret rfl d_Modl_contentOf_40 ⟨rfl, rfl, rfl⟩
set_option maxHeartbeats 4000000 in
set_option maxRecDepth 100000 in
theorem m_content (l : Launch) {b : Nat} {D : va_G} {Y : Nat → ClassId} {s0 : State} (Z : jS0 b D Y s0) (mm n : Nat) (h : jH) (HM : jModl Y h mm) : jMet l D s0 y_Modl_content c_Modl_content 1 (some .long) 4 [.ref mm] h n 0 0 (fun r h2 n2 => r = some (.long 1) ∧ n = n2 ∧ (∃ fs3, h2 mm = some (.inr (9, .int 0 :: fs3))) ∧ ∀ x, (x < mm ∨ mm + 23 ≤ x) → h2 x = h x) := by
  refine jMet_of Z (by decide) (Nat.le_of_ble_eq_true rfl) ?_
  intro p e s m below meth c
  obtain ⟨M0, M1, M2, M3, M4, M5, M6, M7, M8, M9, M18, M19, M22⟩ := HM
  refine j_aload_n d_Modl_content_0 0 rfl ?_
  refine j_iconst d_Modl_content_1 (v := 0) (by decide) ?_
  refine j_put iw_Modl t_Modl t_Modl_ok n_Modl (ci := 9) (kf := 0) rfl (by decide) g_855 rfl (t_Modl_ok 0 (by decide)) rfl rfl d_Modl_content_2 M0 (Nat.le_of_ble_eq_true rfl) ?_
  refine j_upx (by simp only [List.set_cons_succ, List.set_cons_zero]; rfl) ?_
  refine j_aload_n d_Modl_content_5 0 rfl ?_
  refine j_get iw_Modl (ci := 9) (kf := 3) rfl (by decide) g_858 d_Modl_content_6 (jh_up_s _ _ _) rfl ?_
  refine j_aload_n d_Modl_content_9 0 rfl ?_
  refine j_get iw_Modl (ci := 9) (kf := 4) rfl (by decide) g_859 d_Modl_content_10 (jh_up_s _ _ _) rfl ?_
  refine j_callS (m_contentOf l Z (mm + 2) _ _ ((jh_up_n _ _ (by omega)).trans M2)) ⟨⟨Nat.le_of_ble_eq_true rfl, Nat.le_of_ble_eq_true rfl⟩, g_1006, g_1008, g_10, (by decide +kernel), (by decide +kernel), (show _ = some 2 from by decide +kernel)⟩ g_1007 ⟨(by first | exact Nat.le_of_ble_eq_true rfl | (simp only [jrm]; omega)), (by first | exact Nat.le_of_ble_eq_true rfl | (simp only [jrm]; omega))⟩ (Nat.le_of_ble_eq_true rfl) d_Modl_content_13 (fun r0 h0 n0 P0 => ?_)
  obtain ⟨rfl, rfl, rfl⟩ := P0
  refine j_lret rfl d_Modl_content_16 ⟨rfl, rfl, ⟨_, (jh_up_s _ _ _)⟩, fun x hx => ?_⟩
  exact (jh_up_n _ _ (by omega))
set_option maxHeartbeats 4000000 in
set_option maxRecDepth 100000 in
theorem m_at (l : Launch) {b : Nat} {D : va_G} {Y : Nat → ClassId} {s0 : State} (Z : jS0 b D Y s0) (mm n : Nat) (h : jH) (HM : jModl Y h mm) (x0 : Int32) (h1 : ¬ x0 < 0) (h2 : x0 ≤ 12) : jMet l D s0 y_Modl_at c_Modl_at 2 (some .int) 4 [.ref mm, .int x0] h n 0 0 (fun r h2 n2 => r = some (.int (jOne x0.toNatClampNeg).toInt32) ∧ n = n2 ∧ (∃ fs3, h2 mm = some (.inr (9, .int 0 :: fs3))) ∧ ∀ x, (x < mm ∨ mm + 23 ≤ x) → h2 x = h x) := by
  refine jMet_of Z (by decide) (Nat.le_of_ble_eq_true rfl) ?_
  intro p e s m below meth c
  obtain ⟨M0, M1, M2, M3, M4, M5, M6, M7, M8, M9, M18, M19, M22⟩ := HM
  refine j_aload_n d_Modl_at_0 0 rfl ?_
  refine j_iload_n d_Modl_at_1 1 rfl ?_
  refine j_if_lt_f (tgt := 11) d_Modl_at_2 (by decide) h1 ?_
  refine j_iload_n d_Modl_at_5 1 rfl ?_
  refine j_bipush d_Modl_at_6 (v := 12) (by decide) ?_
  refine j_icmp_le_t (tgt := 15) d_Modl_at_8 (by decide) h2 ?_
  refine j_iconst d_Modl_at_15 (v := 0) (by decide) ?_
  refine j_iconst d_Modl_at_16 (v := 1) (by decide) ?_
  refine j_callV (k_fails0 l Z mm _ _ _ 1 _ M0) ⟨⟨Nat.le_of_ble_eq_true rfl, Nat.le_of_ble_eq_true rfl⟩, g_970, g_973, g_10, (by decide +kernel), (by decide +kernel), (show _ = some 2 from by decide +kernel)⟩ g_972 gp_23 (ci := 9) rfl M0 ⟨(by first | exact Nat.le_of_ble_eq_true rfl | (simp only [jrm]; omega)), (by first | exact Nat.le_of_ble_eq_true rfl | (simp only [jrm]; omega))⟩ (Nat.le_of_ble_eq_true rfl) d_Modl_at_17 (fun r5 h5 n5 P5 => ?_)
  obtain ⟨rfl, rfl, O5, F5⟩ := P5
  have E5_0 := (F5 (mm + 1) (by omega)).trans M1
  have E5_1 := (F5 (mm + 2) (by omega)).trans M2
  have E5_2 := (F5 (mm + 3) (by omega)).trans M3
  have E5_3 := (F5 (mm + 4) (by omega)).trans M4
  have E5_4 := (F5 (mm + 5) (by omega)).trans M5
  have E5_5 := (F5 (mm + 6) (by omega)).trans M6
  have E5_6 := (F5 (mm + 7) (by omega)).trans M7
  have E5_7 := (F5 (mm + 8) (by omega)).trans M8
  have E5_8 := (F5 (mm + 9) (by omega)).trans M9
  have E5_9 := (F5 (mm + 18) (by omega)).trans M18
  have E5_10 := (F5 (mm + 19) (by omega)).trans M19
  have E5_11 := (F5 (mm + 22) (by omega)).trans M22
  refine j_if_eq_t (tgt := 27) d_Modl_at_20 (by decide) (by decide) ?_
  refine j_aload_n d_Modl_at_27 0 rfl ?_
  refine j_get iw_Modl (ci := 9) (kf := 3) rfl (by decide) g_858 d_Modl_at_28 O5 rfl ?_
  refine j_iload_n d_Modl_at_31 1 rfl ?_
  refine j_lald d_Modl_at_32 E5_1 (by
    obtain ⟨j, hj, rfl⟩ := nI_of2 (M := 12) (n := 12) rfl h1 h2
    exact nI_in (by omega) (by decide)) ?_
  refine j_l2i d_Modl_at_33 rfl ?_
  refine j_iret rfl d_Modl_at_34 ⟨rfl, rfl, ⟨_, O5⟩, fun x hx => ?_⟩
  exact (F5 x (by omega))
set_option maxHeartbeats 4000000 in
set_option maxRecDepth 100000 in
theorem n_at (l : Launch) {b : Nat} {D : va_G} {Y : Nat → ClassId} {s0 : State} (Z : jS0 b D Y s0) (mm n : Nat) (h : jH) (HM : jModl Y h mm) (x0 : Int32) (h1 : x0 < 0 ∨ ¬ x0 ≤ 12) : jMet l D s0 y_Modl_at c_Modl_at 2 (some .int) 4 [.ref mm, .int x0] h n 0 0 (fun r h2 n2 => r = some (.int 0) ∧ n = n2 ∧ (∃ fs3, h2 mm = some (.inr (9, .int 1 :: fs3))) ∧ ∀ x, (x < mm ∨ mm + 23 ≤ x) → h2 x = h x) := by
  refine jMet_of Z (by decide) (Nat.le_of_ble_eq_true rfl) ?_
  intro p e s m below meth c
  obtain ⟨M0, M1, M2, M3, M4, M5, M6, M7, M8, M9, M18, M19, M22⟩ := HM
  by_cases h0 : x0 < 0
  · refine j_aload_n d_Modl_at_0 0 rfl ?_
    refine j_iload_n d_Modl_at_1 1 rfl ?_
    refine j_if_lt_t (tgt := 11) d_Modl_at_2 (by decide) h0 ?_
    refine j_iconst d_Modl_at_11 (v := 1) (by decide) ?_
    refine j_goto (tgt := 16) d_Modl_at_12 (by decide) ?_
    refine j_iconst d_Modl_at_16 (v := 1) (by decide) ?_
    refine j_callV (k_fails1 l Z mm _ _ _ 1 _ M0) ⟨⟨Nat.le_of_ble_eq_true rfl, Nat.le_of_ble_eq_true rfl⟩, g_970, g_973, g_10, (by decide +kernel), (by decide +kernel), (show _ = some 2 from by decide +kernel)⟩ g_972 gp_23 (ci := 9) rfl M0 ⟨(by first | exact Nat.le_of_ble_eq_true rfl | (simp only [jrm]; omega)), (by first | exact Nat.le_of_ble_eq_true rfl | (simp only [jrm]; omega))⟩ (Nat.le_of_ble_eq_true rfl) d_Modl_at_17 (fun r6 h6 n6 P6 => ?_)
    obtain ⟨rfl, rfl, O6, F6⟩ := P6
    have E6_0 := (F6 (mm + 1) (by omega)).trans M1
    have E6_1 := (F6 (mm + 2) (by omega)).trans M2
    have E6_2 := (F6 (mm + 3) (by omega)).trans M3
    have E6_3 := (F6 (mm + 4) (by omega)).trans M4
    have E6_4 := (F6 (mm + 5) (by omega)).trans M5
    have E6_5 := (F6 (mm + 6) (by omega)).trans M6
    have E6_6 := (F6 (mm + 7) (by omega)).trans M7
    have E6_7 := (F6 (mm + 8) (by omega)).trans M8
    have E6_8 := (F6 (mm + 9) (by omega)).trans M9
    have E6_9 := (F6 (mm + 18) (by omega)).trans M18
    have E6_10 := (F6 (mm + 19) (by omega)).trans M19
    have E6_11 := (F6 (mm + 22) (by omega)).trans M22
    refine j_if_eq_f (tgt := 27) d_Modl_at_20 (by decide) (by decide) ?_
    refine j_iconst d_Modl_at_23 (v := 0) (by decide) ?_
    refine j_goto (tgt := 34) d_Modl_at_24 (by decide) ?_
    refine j_iret rfl d_Modl_at_34 ⟨rfl, rfl, ⟨_, O6⟩, fun x hx => ?_⟩
    exact (F6 x (by omega))
  · refine j_aload_n d_Modl_at_0 0 rfl ?_
    refine j_iload_n d_Modl_at_1 1 rfl ?_
    refine j_if_lt_f (tgt := 11) d_Modl_at_2 (by decide) h0 ?_
    refine j_iload_n d_Modl_at_5 1 rfl ?_
    refine j_bipush d_Modl_at_6 (v := 12) (by decide) ?_
    refine j_icmp_le_f (tgt := 15) d_Modl_at_8 (by decide) (h1.resolve_left h0) ?_
    refine j_iconst d_Modl_at_11 (v := 1) (by decide) ?_
    refine j_goto (tgt := 16) d_Modl_at_12 (by decide) ?_
    refine j_iconst d_Modl_at_16 (v := 1) (by decide) ?_
    refine j_callV (k_fails1 l Z mm _ _ _ 1 _ M0) ⟨⟨Nat.le_of_ble_eq_true rfl, Nat.le_of_ble_eq_true rfl⟩, g_970, g_973, g_10, (by decide +kernel), (by decide +kernel), (show _ = some 2 from by decide +kernel)⟩ g_972 gp_23 (ci := 9) rfl M0 ⟨(by first | exact Nat.le_of_ble_eq_true rfl | (simp only [jrm]; omega)), (by first | exact Nat.le_of_ble_eq_true rfl | (simp only [jrm]; omega))⟩ (Nat.le_of_ble_eq_true rfl) d_Modl_at_17 (fun r7 h7 n7 P7 => ?_)
    obtain ⟨rfl, rfl, O7, F7⟩ := P7
    have E7_0 := (F7 (mm + 1) (by omega)).trans M1
    have E7_1 := (F7 (mm + 2) (by omega)).trans M2
    have E7_2 := (F7 (mm + 3) (by omega)).trans M3
    have E7_3 := (F7 (mm + 4) (by omega)).trans M4
    have E7_4 := (F7 (mm + 5) (by omega)).trans M5
    have E7_5 := (F7 (mm + 6) (by omega)).trans M6
    have E7_6 := (F7 (mm + 7) (by omega)).trans M7
    have E7_7 := (F7 (mm + 8) (by omega)).trans M8
    have E7_8 := (F7 (mm + 9) (by omega)).trans M9
    have E7_9 := (F7 (mm + 18) (by omega)).trans M18
    have E7_10 := (F7 (mm + 19) (by omega)).trans M19
    have E7_11 := (F7 (mm + 22) (by omega)).trans M22
    refine j_if_eq_f (tgt := 27) d_Modl_at_20 (by decide) (by decide) ?_
    refine j_iconst d_Modl_at_23 (v := 0) (by decide) ?_
    refine j_goto (tgt := 34) d_Modl_at_24 (by decide) ?_
    refine j_iret rfl d_Modl_at_34 ⟨rfl, rfl, ⟨_, O7⟩, fun x hx => ?_⟩
    exact (F7 x (by omega))
set_option maxHeartbeats 4000000 in
set_option maxRecDepth 100000 in
theorem n_factor (l : Launch) {b : Nat} {D : va_G} {Y : Nat → ClassId} {s0 : State} (Z : jS0 b D Y s0) (mm n : Nat) (h : jH) (HM : jModl Y h mm) (x0 x1 : Int32) : jMet l D s0 y_Modl_factor c_Modl_factor 3 (some .int) 4 [.ref mm, .int x0, .int x1] h n 0 0 (fun r h2 n2 => r = some (.int 0) ∧ n = n2 ∧ (∃ fs3, h2 mm = some (.inr (9, .int 1 :: fs3))) ∧ ∀ x, (x < mm ∨ mm + 23 ≤ x) → h2 x = h x) := by
  refine jMet_of Z (by decide) (Nat.le_of_ble_eq_true rfl) ?_
  intro p e s m below meth c
  obtain ⟨M0, M1, M2, M3, M4, M5, M6, M7, M8, M9, M18, M19, M22⟩ := HM
  by_cases h0 : x0 < 0
  · refine j_aload_n d_Modl_factor_0 0 rfl ?_
    refine j_iload_n d_Modl_factor_1 1 rfl ?_
    refine j_if_lt_t (tgt := 22) d_Modl_factor_2 (by decide) h0 ?_
    refine j_iconst d_Modl_factor_22 (v := 1) (by decide) ?_
    refine j_goto (tgt := 27) d_Modl_factor_23 (by decide) ?_
    refine j_iconst d_Modl_factor_27 (v := 1) (by decide) ?_
    refine j_callV (k_fails1 l Z mm _ _ _ 1 _ M0) ⟨⟨Nat.le_of_ble_eq_true rfl, Nat.le_of_ble_eq_true rfl⟩, g_970, g_973, g_10, (by decide +kernel), (by decide +kernel), (show _ = some 2 from by decide +kernel)⟩ g_972 gp_23 (ci := 9) rfl M0 ⟨(by first | exact Nat.le_of_ble_eq_true rfl | (simp only [jrm]; omega)), (by first | exact Nat.le_of_ble_eq_true rfl | (simp only [jrm]; omega))⟩ (Nat.le_of_ble_eq_true rfl) d_Modl_factor_28 (fun r8 h8 n8 P8 => ?_)
    obtain ⟨rfl, rfl, O8, F8⟩ := P8
    have E8_0 := (F8 (mm + 1) (by omega)).trans M1
    have E8_1 := (F8 (mm + 2) (by omega)).trans M2
    have E8_2 := (F8 (mm + 3) (by omega)).trans M3
    have E8_3 := (F8 (mm + 4) (by omega)).trans M4
    have E8_4 := (F8 (mm + 5) (by omega)).trans M5
    have E8_5 := (F8 (mm + 6) (by omega)).trans M6
    have E8_6 := (F8 (mm + 7) (by omega)).trans M7
    have E8_7 := (F8 (mm + 8) (by omega)).trans M8
    have E8_8 := (F8 (mm + 9) (by omega)).trans M9
    have E8_9 := (F8 (mm + 18) (by omega)).trans M18
    have E8_10 := (F8 (mm + 19) (by omega)).trans M19
    have E8_11 := (F8 (mm + 22) (by omega)).trans M22
    refine j_if_eq_f (tgt := 36) d_Modl_factor_31 (by decide) (by decide) ?_
    refine j_iconst d_Modl_factor_34 (v := 0) (by decide) ?_
    refine j_iret rfl d_Modl_factor_35 ⟨rfl, rfl, ⟨_, O8⟩, fun x hx => ?_⟩
    exact (F8 x (by omega))
  · refine j_aload_n d_Modl_factor_0 0 rfl ?_
    refine j_iload_n d_Modl_factor_1 1 rfl ?_
    refine j_if_lt_f (tgt := 22) d_Modl_factor_2 (by decide) h0 ?_
    refine j_iload_n d_Modl_factor_5 1 rfl ?_
    refine j_aload_n d_Modl_factor_6 0 rfl ?_
    refine j_get iw_Modl (ci := 9) (kf := 7) rfl (by decide) g_862 d_Modl_factor_7 M0 rfl ?_
    refine j_icmp_ge_t (tgt := 22) d_Modl_factor_10 (by decide) (Int32.not_lt.mp h0) ?_
    refine j_iconst d_Modl_factor_22 (v := 1) (by decide) ?_
    refine j_goto (tgt := 27) d_Modl_factor_23 (by decide) ?_
    refine j_iconst d_Modl_factor_27 (v := 1) (by decide) ?_
    refine j_callV (k_fails1 l Z mm _ _ _ 1 _ M0) ⟨⟨Nat.le_of_ble_eq_true rfl, Nat.le_of_ble_eq_true rfl⟩, g_970, g_973, g_10, (by decide +kernel), (by decide +kernel), (show _ = some 2 from by decide +kernel)⟩ g_972 gp_23 (ci := 9) rfl M0 ⟨(by first | exact Nat.le_of_ble_eq_true rfl | (simp only [jrm]; omega)), (by first | exact Nat.le_of_ble_eq_true rfl | (simp only [jrm]; omega))⟩ (Nat.le_of_ble_eq_true rfl) d_Modl_factor_28 (fun r9 h9 n9 P9 => ?_)
    obtain ⟨rfl, rfl, O9, F9⟩ := P9
    have E9_0 := (F9 (mm + 1) (by omega)).trans M1
    have E9_1 := (F9 (mm + 2) (by omega)).trans M2
    have E9_2 := (F9 (mm + 3) (by omega)).trans M3
    have E9_3 := (F9 (mm + 4) (by omega)).trans M4
    have E9_4 := (F9 (mm + 5) (by omega)).trans M5
    have E9_5 := (F9 (mm + 6) (by omega)).trans M6
    have E9_6 := (F9 (mm + 7) (by omega)).trans M7
    have E9_7 := (F9 (mm + 8) (by omega)).trans M8
    have E9_8 := (F9 (mm + 9) (by omega)).trans M9
    have E9_9 := (F9 (mm + 18) (by omega)).trans M18
    have E9_10 := (F9 (mm + 19) (by omega)).trans M19
    have E9_11 := (F9 (mm + 22) (by omega)).trans M22
    refine j_if_eq_f (tgt := 36) d_Modl_factor_31 (by decide) (by decide) ?_
    refine j_iconst d_Modl_factor_34 (v := 0) (by decide) ?_
    refine j_iret rfl d_Modl_factor_35 ⟨rfl, rfl, ⟨_, O9⟩, fun x hx => ?_⟩
    exact (F9 x (by omega))
set_option maxHeartbeats 4000000 in
set_option maxRecDepth 100000 in
theorem n_part (l : Launch) {b : Nat} {D : va_G} {Y : Nat → ClassId} {s0 : State} (Z : jS0 b D Y s0) (mm n : Nat) (h : jH) (HM : jModl Y h mm) (x0 x1 : Int32) : jMet l D s0 y_Modl_part c_Modl_part 3 (some .long) 4 [.ref mm, .int x0, .int x1] h n 0 0 (fun r h2 n2 => r = some (.long 0) ∧ n = n2 ∧ (∃ fs3, h2 mm = some (.inr (9, .int 1 :: fs3))) ∧ ∀ x, (x < mm ∨ mm + 23 ≤ x) → h2 x = h x) := by
  refine jMet_of Z (by decide) (Nat.le_of_ble_eq_true rfl) ?_
  intro p e s m below meth c
  obtain ⟨M0, M1, M2, M3, M4, M5, M6, M7, M8, M9, M18, M19, M22⟩ := HM
  by_cases h0 : x0 < 0
  · refine j_aload_n d_Modl_part_0 0 rfl ?_
    refine j_iload_n d_Modl_part_1 1 rfl ?_
    refine j_if_lt_t (tgt := 17) d_Modl_part_2 (by decide) h0 ?_
    refine j_iconst d_Modl_part_17 (v := 1) (by decide) ?_
    refine j_goto (tgt := 22) d_Modl_part_18 (by decide) ?_
    refine j_iconst d_Modl_part_22 (v := 1) (by decide) ?_
    refine j_callV (k_fails1 l Z mm _ _ _ 1 _ M0) ⟨⟨Nat.le_of_ble_eq_true rfl, Nat.le_of_ble_eq_true rfl⟩, g_970, g_973, g_10, (by decide +kernel), (by decide +kernel), (show _ = some 2 from by decide +kernel)⟩ g_972 gp_23 (ci := 9) rfl M0 ⟨(by first | exact Nat.le_of_ble_eq_true rfl | (simp only [jrm]; omega)), (by first | exact Nat.le_of_ble_eq_true rfl | (simp only [jrm]; omega))⟩ (Nat.le_of_ble_eq_true rfl) d_Modl_part_23 (fun r10 h10 n10 P10 => ?_)
    obtain ⟨rfl, rfl, O10, F10⟩ := P10
    have E10_0 := (F10 (mm + 1) (by omega)).trans M1
    have E10_1 := (F10 (mm + 2) (by omega)).trans M2
    have E10_2 := (F10 (mm + 3) (by omega)).trans M3
    have E10_3 := (F10 (mm + 4) (by omega)).trans M4
    have E10_4 := (F10 (mm + 5) (by omega)).trans M5
    have E10_5 := (F10 (mm + 6) (by omega)).trans M6
    have E10_6 := (F10 (mm + 7) (by omega)).trans M7
    have E10_7 := (F10 (mm + 8) (by omega)).trans M8
    have E10_8 := (F10 (mm + 9) (by omega)).trans M9
    have E10_9 := (F10 (mm + 18) (by omega)).trans M18
    have E10_10 := (F10 (mm + 19) (by omega)).trans M19
    have E10_11 := (F10 (mm + 22) (by omega)).trans M22
    refine j_if_ne_t (tgt := 52) d_Modl_part_26 (by decide) (by decide) ?_
    refine j_lconst d_Modl_part_52 (v := 0) (by decide) ?_
    refine j_lret rfl d_Modl_part_53 ⟨rfl, rfl, ⟨_, O10⟩, fun x hx => ?_⟩
    exact (F10 x (by omega))
  · refine j_aload_n d_Modl_part_0 0 rfl ?_
    refine j_iload_n d_Modl_part_1 1 rfl ?_
    refine j_if_lt_f (tgt := 17) d_Modl_part_2 (by decide) h0 ?_
    refine j_iload_n d_Modl_part_5 1 rfl ?_
    refine j_aload_n d_Modl_part_6 0 rfl ?_
    refine j_get iw_Modl (ci := 9) (kf := 7) rfl (by decide) g_862 d_Modl_part_7 M0 rfl ?_
    refine j_icmp_ge_t (tgt := 17) d_Modl_part_10 (by decide) (Int32.not_lt.mp h0) ?_
    refine j_iconst d_Modl_part_17 (v := 1) (by decide) ?_
    refine j_goto (tgt := 22) d_Modl_part_18 (by decide) ?_
    refine j_iconst d_Modl_part_22 (v := 1) (by decide) ?_
    refine j_callV (k_fails1 l Z mm _ _ _ 1 _ M0) ⟨⟨Nat.le_of_ble_eq_true rfl, Nat.le_of_ble_eq_true rfl⟩, g_970, g_973, g_10, (by decide +kernel), (by decide +kernel), (show _ = some 2 from by decide +kernel)⟩ g_972 gp_23 (ci := 9) rfl M0 ⟨(by first | exact Nat.le_of_ble_eq_true rfl | (simp only [jrm]; omega)), (by first | exact Nat.le_of_ble_eq_true rfl | (simp only [jrm]; omega))⟩ (Nat.le_of_ble_eq_true rfl) d_Modl_part_23 (fun r11 h11 n11 P11 => ?_)
    obtain ⟨rfl, rfl, O11, F11⟩ := P11
    have E11_0 := (F11 (mm + 1) (by omega)).trans M1
    have E11_1 := (F11 (mm + 2) (by omega)).trans M2
    have E11_2 := (F11 (mm + 3) (by omega)).trans M3
    have E11_3 := (F11 (mm + 4) (by omega)).trans M4
    have E11_4 := (F11 (mm + 5) (by omega)).trans M5
    have E11_5 := (F11 (mm + 6) (by omega)).trans M6
    have E11_6 := (F11 (mm + 7) (by omega)).trans M7
    have E11_7 := (F11 (mm + 8) (by omega)).trans M8
    have E11_8 := (F11 (mm + 9) (by omega)).trans M9
    have E11_9 := (F11 (mm + 18) (by omega)).trans M18
    have E11_10 := (F11 (mm + 19) (by omega)).trans M19
    have E11_11 := (F11 (mm + 22) (by omega)).trans M22
    refine j_if_ne_t (tgt := 52) d_Modl_part_26 (by decide) (by decide) ?_
    refine j_lconst d_Modl_part_52 (v := 0) (by decide) ?_
    refine j_lret rfl d_Modl_part_53 ⟨rfl, rfl, ⟨_, O11⟩, fun x hx => ?_⟩
    exact (F11 x (by omega))
set_option maxHeartbeats 4000000 in
set_option maxRecDepth 100000 in
theorem m_isIrr (l : Launch) {b : Nat} {D : va_G} {Y : Nat → ClassId} {s0 : State} (Z : jS0 b D Y s0) (mm n : Nat) (h : jH) (HM : jModl Y h mm) : jMet l D s0 y_Modl_isIrreducible c_Modl_isIrreducible 1 (some .boolean) 4 [.ref mm] h n 0 0 (fun r h2 n2 => r = some (.int 0) ∧ n = n2 ∧ (∃ fs3, h2 mm = some (.inr (9, .int 0 :: fs3))) ∧ ∀ x, (x < mm ∨ mm + 23 ≤ x) → h2 x = h x) := by
  refine jMet_of Z (by decide) (Nat.le_of_ble_eq_true rfl) ?_
  intro p e s m below meth c
  obtain ⟨M0, M1, M2, M3, M4, M5, M6, M7, M8, M9, M18, M19, M22⟩ := HM
  refine j_aload_n d_Modl_isIrreducible_0 0 rfl ?_
  refine j_iconst d_Modl_isIrreducible_1 (v := 0) (by decide) ?_
  refine j_put iw_Modl t_Modl t_Modl_ok n_Modl (ci := 9) (kf := 0) rfl (by decide) g_855 rfl (t_Modl_ok 0 (by decide)) rfl rfl d_Modl_isIrreducible_2 M0 (Nat.le_of_ble_eq_true rfl) ?_
  refine j_upx (by simp only [List.set_cons_succ, List.set_cons_zero]; rfl) ?_
  refine j_aload_n d_Modl_isIrreducible_5 0 rfl ?_
  refine j_get iw_Modl (ci := 9) (kf := 4) rfl (by decide) g_859 d_Modl_isIrreducible_6 (jh_up_s _ _ _) rfl ?_
  refine j_if_eq_t (tgt := 28) d_Modl_isIrreducible_9 (by decide) (by decide) ?_
  refine j_iconst d_Modl_isIrreducible_28 (v := 0) (by decide) ?_
  refine j_zret rfl (by decide) d_Modl_isIrreducible_29 ⟨rfl, rfl, ⟨_, (jh_up_s _ _ _)⟩, fun x hx => ?_⟩
  exact (jh_up_n _ _ (by omega))
set_option maxHeartbeats 4000000 in
set_option maxRecDepth 100000 in
theorem m_divisor (l : Launch) {b : Nat} {D : va_G} {Y : Nat → ClassId} {s0 : State} (Z : jS0 b D Y s0) (mm n : Nat) (h : jH) (HM : jModl Y h mm) : jMet l D s0 y_Modl_divisor c_Modl_divisor 2 (some .long) 4 [.ref mm, .int 0] h n 0 0 (fun r h2 n2 => r = some (.long 1) ∧ n = n2 ∧ (∃ fs3, h2 mm = some (.inr (9, .int 0 :: fs3))) ∧ ∀ x, (x < mm ∨ mm + 23 ≤ x) → h2 x = h x) := by
  refine jMet_of Z (by decide) (Nat.le_of_ble_eq_true rfl) ?_
  intro p e s m below meth c
  obtain ⟨M0, M1, M2, M3, M4, M5, M6, M7, M8, M9, M18, M19, M22⟩ := HM
  refine j_aload_n d_Modl_divisor_0 0 rfl ?_
  refine j_iload_n d_Modl_divisor_1 1 rfl ?_
  refine j_if_lt_f (tgt := 13) d_Modl_divisor_2 (by decide) (by decide) ?_
  refine j_iload_n d_Modl_divisor_5 1 rfl ?_
  refine j_aload_n d_Modl_divisor_6 0 rfl ?_
  refine j_get iw_Modl (ci := 9) (kf := 6) rfl (by decide) g_861 d_Modl_divisor_7 M0 rfl ?_
  refine j_icmp_le_t (tgt := 17) d_Modl_divisor_10 (by decide) (by decide) ?_
  refine j_iconst d_Modl_divisor_17 (v := 0) (by decide) ?_
  refine j_iconst d_Modl_divisor_18 (v := 1) (by decide) ?_
  refine j_callV (k_fails0 l Z mm _ _ _ 1 _ M0) ⟨⟨Nat.le_of_ble_eq_true rfl, Nat.le_of_ble_eq_true rfl⟩, g_970, g_973, g_10, (by decide +kernel), (by decide +kernel), (show _ = some 2 from by decide +kernel)⟩ g_972 gp_23 (ci := 9) rfl M0 ⟨(by first | exact Nat.le_of_ble_eq_true rfl | (simp only [jrm]; omega)), (by first | exact Nat.le_of_ble_eq_true rfl | (simp only [jrm]; omega))⟩ (Nat.le_of_ble_eq_true rfl) d_Modl_divisor_19 (fun r12 h12 n12 P12 => ?_)
  obtain ⟨rfl, rfl, O12, F12⟩ := P12
  have E12_0 := (F12 (mm + 1) (by omega)).trans M1
  have E12_1 := (F12 (mm + 2) (by omega)).trans M2
  have E12_2 := (F12 (mm + 3) (by omega)).trans M3
  have E12_3 := (F12 (mm + 4) (by omega)).trans M4
  have E12_4 := (F12 (mm + 5) (by omega)).trans M5
  have E12_5 := (F12 (mm + 6) (by omega)).trans M6
  have E12_6 := (F12 (mm + 7) (by omega)).trans M7
  have E12_7 := (F12 (mm + 8) (by omega)).trans M8
  have E12_8 := (F12 (mm + 9) (by omega)).trans M9
  have E12_9 := (F12 (mm + 18) (by omega)).trans M18
  have E12_10 := (F12 (mm + 19) (by omega)).trans M19
  have E12_11 := (F12 (mm + 22) (by omega)).trans M22
  refine j_if_eq_t (tgt := 29) d_Modl_divisor_22 (by decide) (by decide) ?_
  refine j_aload_n d_Modl_divisor_29 0 rfl ?_
  refine j_get iw_Modl (ci := 9) (kf := 5) rfl (by decide) g_860 d_Modl_divisor_30 O12 rfl ?_
  refine j_iload_n d_Modl_divisor_33 1 rfl ?_
  refine j_lald d_Modl_divisor_34 E12_2 (by unfold vp_in; decide) ?_
  refine j_lret rfl d_Modl_divisor_35 ⟨rfl, rfl, ⟨_, O12⟩, fun x hx => ?_⟩
  exact (F12 x (by omega))
set_option maxHeartbeats 4000000 in
set_option maxRecDepth 100000 in
theorem n_divisor (l : Launch) {b : Nat} {D : va_G} {Y : Nat → ClassId} {s0 : State} (Z : jS0 b D Y s0) (mm n : Nat) (h : jH) (HM : jModl Y h mm) (x0 : Int32) (h1 : ¬ x0 = 0) : jMet l D s0 y_Modl_divisor c_Modl_divisor 2 (some .long) 4 [.ref mm, .int x0] h n 0 0 (fun r h2 n2 => r = some (.long 0) ∧ n = n2 ∧ (∃ fs3, h2 mm = some (.inr (9, .int 1 :: fs3))) ∧ ∀ x, (x < mm ∨ mm + 23 ≤ x) → h2 x = h x) := by
  refine jMet_of Z (by decide) (Nat.le_of_ble_eq_true rfl) ?_
  intro p e s m below meth c
  obtain ⟨M0, M1, M2, M3, M4, M5, M6, M7, M8, M9, M18, M19, M22⟩ := HM
  by_cases h0 : x0 < 0
  · refine j_aload_n d_Modl_divisor_0 0 rfl ?_
    refine j_iload_n d_Modl_divisor_1 1 rfl ?_
    refine j_if_lt_t (tgt := 13) d_Modl_divisor_2 (by decide) h0 ?_
    refine j_iconst d_Modl_divisor_13 (v := 1) (by decide) ?_
    refine j_goto (tgt := 18) d_Modl_divisor_14 (by decide) ?_
    refine j_iconst d_Modl_divisor_18 (v := 1) (by decide) ?_
    refine j_callV (k_fails1 l Z mm _ _ _ 1 _ M0) ⟨⟨Nat.le_of_ble_eq_true rfl, Nat.le_of_ble_eq_true rfl⟩, g_970, g_973, g_10, (by decide +kernel), (by decide +kernel), (show _ = some 2 from by decide +kernel)⟩ g_972 gp_23 (ci := 9) rfl M0 ⟨(by first | exact Nat.le_of_ble_eq_true rfl | (simp only [jrm]; omega)), (by first | exact Nat.le_of_ble_eq_true rfl | (simp only [jrm]; omega))⟩ (Nat.le_of_ble_eq_true rfl) d_Modl_divisor_19 (fun r13 h13 n13 P13 => ?_)
    obtain ⟨rfl, rfl, O13, F13⟩ := P13
    have E13_0 := (F13 (mm + 1) (by omega)).trans M1
    have E13_1 := (F13 (mm + 2) (by omega)).trans M2
    have E13_2 := (F13 (mm + 3) (by omega)).trans M3
    have E13_3 := (F13 (mm + 4) (by omega)).trans M4
    have E13_4 := (F13 (mm + 5) (by omega)).trans M5
    have E13_5 := (F13 (mm + 6) (by omega)).trans M6
    have E13_6 := (F13 (mm + 7) (by omega)).trans M7
    have E13_7 := (F13 (mm + 8) (by omega)).trans M8
    have E13_8 := (F13 (mm + 9) (by omega)).trans M9
    have E13_9 := (F13 (mm + 18) (by omega)).trans M18
    have E13_10 := (F13 (mm + 19) (by omega)).trans M19
    have E13_11 := (F13 (mm + 22) (by omega)).trans M22
    refine j_if_eq_f (tgt := 29) d_Modl_divisor_22 (by decide) (by decide) ?_
    refine j_lconst d_Modl_divisor_25 (v := 0) (by decide) ?_
    refine j_goto (tgt := 35) d_Modl_divisor_26 (by decide) ?_
    refine j_lret rfl d_Modl_divisor_35 ⟨rfl, rfl, ⟨_, O13⟩, fun x hx => ?_⟩
    exact (F13 x (by omega))
  · refine j_aload_n d_Modl_divisor_0 0 rfl ?_
    refine j_iload_n d_Modl_divisor_1 1 rfl ?_
    refine j_if_lt_f (tgt := 13) d_Modl_divisor_2 (by decide) h0 ?_
    refine j_iload_n d_Modl_divisor_5 1 rfl ?_
    refine j_aload_n d_Modl_divisor_6 0 rfl ?_
    refine j_get iw_Modl (ci := 9) (kf := 6) rfl (by decide) g_861 d_Modl_divisor_7 M0 rfl ?_
    refine j_icmp_le_f (tgt := 17) d_Modl_divisor_10 (by decide) (fun h2 => h1 (Int32.le_antisymm h2 (Int32.not_lt.mp h0))) ?_
    refine j_iconst d_Modl_divisor_13 (v := 1) (by decide) ?_
    refine j_goto (tgt := 18) d_Modl_divisor_14 (by decide) ?_
    refine j_iconst d_Modl_divisor_18 (v := 1) (by decide) ?_
    refine j_callV (k_fails1 l Z mm _ _ _ 1 _ M0) ⟨⟨Nat.le_of_ble_eq_true rfl, Nat.le_of_ble_eq_true rfl⟩, g_970, g_973, g_10, (by decide +kernel), (by decide +kernel), (show _ = some 2 from by decide +kernel)⟩ g_972 gp_23 (ci := 9) rfl M0 ⟨(by first | exact Nat.le_of_ble_eq_true rfl | (simp only [jrm]; omega)), (by first | exact Nat.le_of_ble_eq_true rfl | (simp only [jrm]; omega))⟩ (Nat.le_of_ble_eq_true rfl) d_Modl_divisor_19 (fun r14 h14 n14 P14 => ?_)
    obtain ⟨rfl, rfl, O14, F14⟩ := P14
    have E14_0 := (F14 (mm + 1) (by omega)).trans M1
    have E14_1 := (F14 (mm + 2) (by omega)).trans M2
    have E14_2 := (F14 (mm + 3) (by omega)).trans M3
    have E14_3 := (F14 (mm + 4) (by omega)).trans M4
    have E14_4 := (F14 (mm + 5) (by omega)).trans M5
    have E14_5 := (F14 (mm + 6) (by omega)).trans M6
    have E14_6 := (F14 (mm + 7) (by omega)).trans M7
    have E14_7 := (F14 (mm + 8) (by omega)).trans M8
    have E14_8 := (F14 (mm + 9) (by omega)).trans M9
    have E14_9 := (F14 (mm + 18) (by omega)).trans M18
    have E14_10 := (F14 (mm + 19) (by omega)).trans M19
    have E14_11 := (F14 (mm + 22) (by omega)).trans M22
    refine j_if_eq_f (tgt := 29) d_Modl_divisor_22 (by decide) (by decide) ?_
    refine j_lconst d_Modl_divisor_25 (v := 0) (by decide) ?_
    refine j_goto (tgt := 35) d_Modl_divisor_26 (by decide) ?_
    refine j_lret rfl d_Modl_divisor_35 ⟨rfl, rfl, ⟨_, O14⟩, fun x hx => ?_⟩
    exact (F14 x (by omega))
