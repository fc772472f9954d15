abbrev c_Law_put : ByteArray := method_3_code
abbrev y_Law_put : MethodName := ⟨"FactorDeskLaw", "put", "(LFactorDesk;I[J)I"⟩
theorem d_Law_put_0 : decode c_Law_put 0 = .ok (.aload_n 2, 1) := by decide +kernel
theorem d_Law_put_1 : decode c_Law_put 1 = .ok (.iconst 0, 1) := by decide +kernel
theorem d_Law_put_2 : decode c_Law_put 2 = .ok (.aload_n 0, 1) := by decide +kernel
theorem d_Law_put_3 : decode c_Law_put 3 = .ok (.iload_n 1, 1) := by decide +kernel
theorem d_Law_put_4 : decode c_Law_put 4 = .ok (.invokevirtual 7, 3) := by decide +kernel
theorem d_Law_put_7 : decode c_Law_put 7 = .ok (.i2l, 1) := by decide +kernel
theorem d_Law_put_8 : decode c_Law_put 8 = .ok (.lastore, 1) := by decide +kernel
theorem d_Law_put_9 : decode c_Law_put 9 = .ok (.goto 6, 3) := by decide +kernel
theorem d_Law_put_12 : decode c_Law_put 12 = .ok (.astore_n 3, 1) := by decide +kernel
theorem d_Law_put_13 : decode c_Law_put 13 = .ok (.iconst 1, 1) := by decide +kernel
theorem d_Law_put_14 : decode c_Law_put 14 = .ok (.ireturn, 1) := by decide +kernel
theorem d_Law_put_15 : decode c_Law_put 15 = .ok (.iconst 0, 1) := by decide +kernel
theorem d_Law_put_16 : decode c_Law_put 16 = .ok (.ireturn, 1) := by decide +kernel
abbrev c_Law_at : ByteArray := method_6_code
abbrev y_Law_at : MethodName := ⟨"FactorDeskLaw", "at", "(LFactorDesk;I[J)I"⟩
theorem d_Law_at_0 : decode c_Law_at 0 = .ok (.aload_n 2, 1) := by decide +kernel
theorem d_Law_at_1 : decode c_Law_at 1 = .ok (.iconst 0, 1) := by decide +kernel
theorem d_Law_at_2 : decode c_Law_at 2 = .ok (.aload_n 0, 1) := by decide +kernel
theorem d_Law_at_3 : decode c_Law_at 3 = .ok (.iload_n 1, 1) := by decide +kernel
theorem d_Law_at_4 : decode c_Law_at 4 = .ok (.invokevirtual 24, 3) := by decide +kernel
theorem d_Law_at_7 : decode c_Law_at 7 = .ok (.i2l, 1) := by decide +kernel
theorem d_Law_at_8 : decode c_Law_at 8 = .ok (.lastore, 1) := by decide +kernel
theorem d_Law_at_9 : decode c_Law_at 9 = .ok (.goto 6, 3) := by decide +kernel
theorem d_Law_at_12 : decode c_Law_at 12 = .ok (.astore_n 3, 1) := by decide +kernel
theorem d_Law_at_13 : decode c_Law_at 13 = .ok (.iconst 1, 1) := by decide +kernel
theorem d_Law_at_14 : decode c_Law_at 14 = .ok (.ireturn, 1) := by decide +kernel
theorem d_Law_at_15 : decode c_Law_at 15 = .ok (.iconst 0, 1) := by decide +kernel
theorem d_Law_at_16 : decode c_Law_at 16 = .ok (.ireturn, 1) := by decide +kernel
abbrev c_Law_ofDegree : ByteArray := method_9_code
abbrev y_Law_ofDegree : MethodName := ⟨"FactorDeskLaw", "ofDegree", "(LFactorDesk;I[J)I"⟩
theorem d_Law_ofDegree_0 : decode c_Law_ofDegree 0 = .ok (.aload_n 2, 1) := by decide +kernel
theorem d_Law_ofDegree_1 : decode c_Law_ofDegree 1 = .ok (.iconst 0, 1) := by decide +kernel
theorem d_Law_ofDegree_2 : decode c_Law_ofDegree 2 = .ok (.aload_n 0, 1) := by decide +kernel
theorem d_Law_ofDegree_3 : decode c_Law_ofDegree 3 = .ok (.iload_n 1, 1) := by decide +kernel
theorem d_Law_ofDegree_4 : decode c_Law_ofDegree 4 = .ok (.invokevirtual 37, 3) := by decide +kernel
theorem d_Law_ofDegree_7 : decode c_Law_ofDegree 7 = .ok (.i2l, 1) := by decide +kernel
theorem d_Law_ofDegree_8 : decode c_Law_ofDegree 8 = .ok (.lastore, 1) := by decide +kernel
theorem d_Law_ofDegree_9 : decode c_Law_ofDegree 9 = .ok (.goto 6, 3) := by decide +kernel
theorem d_Law_ofDegree_12 : decode c_Law_ofDegree 12 = .ok (.astore_n 3, 1) := by decide +kernel
theorem d_Law_ofDegree_13 : decode c_Law_ofDegree 13 = .ok (.iconst 1, 1) := by decide +kernel
theorem d_Law_ofDegree_14 : decode c_Law_ofDegree 14 = .ok (.ireturn, 1) := by decide +kernel
theorem d_Law_ofDegree_15 : decode c_Law_ofDegree 15 = .ok (.iconst 0, 1) := by decide +kernel
theorem d_Law_ofDegree_16 : decode c_Law_ofDegree 16 = .ok (.ireturn, 1) := by decide +kernel
abbrev c_Law_divisor : ByteArray := method_11_code
abbrev y_Law_divisor : MethodName := ⟨"FactorDeskLaw", "divisor", "(LFactorDesk;I[J)I"⟩
theorem d_Law_divisor_0 : decode c_Law_divisor 0 = .ok (.aload_n 2, 1) := by decide +kernel
theorem d_Law_divisor_1 : decode c_Law_divisor 1 = .ok (.iconst 0, 1) := by decide +kernel
theorem d_Law_divisor_2 : decode c_Law_divisor 2 = .ok (.aload_n 0, 1) := by decide +kernel
theorem d_Law_divisor_3 : decode c_Law_divisor 3 = .ok (.iload_n 1, 1) := by decide +kernel
theorem d_Law_divisor_4 : decode c_Law_divisor 4 = .ok (.invokevirtual 43, 3) := by decide +kernel
theorem d_Law_divisor_7 : decode c_Law_divisor 7 = .ok (.lastore, 1) := by decide +kernel
theorem d_Law_divisor_8 : decode c_Law_divisor 8 = .ok (.goto 6, 3) := by decide +kernel
theorem d_Law_divisor_11 : decode c_Law_divisor 11 = .ok (.astore_n 3, 1) := by decide +kernel
theorem d_Law_divisor_12 : decode c_Law_divisor 12 = .ok (.iconst 1, 1) := by decide +kernel
theorem d_Law_divisor_13 : decode c_Law_divisor 13 = .ok (.ireturn, 1) := by decide +kernel
theorem d_Law_divisor_14 : decode c_Law_divisor 14 = .ok (.iconst 0, 1) := by decide +kernel
theorem d_Law_divisor_15 : decode c_Law_divisor 15 = .ok (.ireturn, 1) := by decide +kernel
abbrev c_Law_value : ByteArray := method_13_code
abbrev y_Law_value : MethodName := ⟨"FactorDeskLaw", "value", "(LFactorDesk;JI[J)I"⟩
theorem d_Law_value_0 : decode c_Law_value 0 = .ok (.aload 4, 2) := by decide +kernel
theorem d_Law_value_2 : decode c_Law_value 2 = .ok (.iconst 0, 1) := by decide +kernel
theorem d_Law_value_3 : decode c_Law_value 3 = .ok (.aload_n 0, 1) := by decide +kernel
theorem d_Law_value_4 : decode c_Law_value 4 = .ok (.lload_n 1, 1) := by decide +kernel
theorem d_Law_value_5 : decode c_Law_value 5 = .ok (.iload_n 3, 1) := by decide +kernel
theorem d_Law_value_6 : decode c_Law_value 6 = .ok (.invokevirtual 51, 3) := by decide +kernel
theorem d_Law_value_9 : decode c_Law_value 9 = .ok (.lastore, 1) := by decide +kernel
theorem d_Law_value_10 : decode c_Law_value 10 = .ok (.goto 7, 3) := by decide +kernel
theorem d_Law_value_13 : decode c_Law_value 13 = .ok (.astore 5, 2) := by decide +kernel
theorem d_Law_value_15 : decode c_Law_value 15 = .ok (.iconst 1, 1) := by decide +kernel
theorem d_Law_value_16 : decode c_Law_value 16 = .ok (.ireturn, 1) := by decide +kernel
theorem d_Law_value_17 : decode c_Law_value 17 = .ok (.iconst 0, 1) := by decide +kernel
theorem d_Law_value_18 : decode c_Law_value 18 = .ok (.ireturn, 1) := by decide +kernel
abbrev c_Law_take : ByteArray := method_4_code
abbrev y_Law_take : MethodName := ⟨"FactorDeskLaw", "take", "(LFactorDesk;[J)I"⟩
theorem d_Law_take_0 : decode c_Law_take 0 = .ok (.aload_n 1, 1) := by decide +kernel
theorem d_Law_take_1 : decode c_Law_take 1 = .ok (.iconst 0, 1) := by decide +kernel
theorem d_Law_take_2 : decode c_Law_take 2 = .ok (.aload_n 0, 1) := by decide +kernel
theorem d_Law_take_3 : decode c_Law_take 3 = .ok (.invokevirtual 15, 3) := by decide +kernel
theorem d_Law_take_6 : decode c_Law_take 6 = .ok (.i2l, 1) := by decide +kernel
theorem d_Law_take_7 : decode c_Law_take 7 = .ok (.lastore, 1) := by decide +kernel
theorem d_Law_take_8 : decode c_Law_take 8 = .ok (.goto 6, 3) := by decide +kernel
theorem d_Law_take_11 : decode c_Law_take 11 = .ok (.astore_n 2, 1) := by decide +kernel
theorem d_Law_take_12 : decode c_Law_take 12 = .ok (.iconst 1, 1) := by decide +kernel
theorem d_Law_take_13 : decode c_Law_take 13 = .ok (.ireturn, 1) := by decide +kernel
theorem d_Law_take_14 : decode c_Law_take 14 = .ok (.iconst 0, 1) := by decide +kernel
theorem d_Law_take_15 : decode c_Law_take 15 = .ok (.ireturn, 1) := by decide +kernel
abbrev c_Law_times : ByteArray := method_5_code
abbrev y_Law_times : MethodName := ⟨"FactorDeskLaw", "times", "(LFactorDesk;[J)I"⟩
theorem d_Law_times_0 : decode c_Law_times 0 = .ok (.aload_n 1, 1) := by decide +kernel
theorem d_Law_times_1 : decode c_Law_times 1 = .ok (.iconst 0, 1) := by decide +kernel
theorem d_Law_times_2 : decode c_Law_times 2 = .ok (.aload_n 0, 1) := by decide +kernel
theorem d_Law_times_3 : decode c_Law_times 3 = .ok (.invokevirtual 21, 3) := by decide +kernel
theorem d_Law_times_6 : decode c_Law_times 6 = .ok (.i2l, 1) := by decide +kernel
theorem d_Law_times_7 : decode c_Law_times 7 = .ok (.lastore, 1) := by decide +kernel
theorem d_Law_times_8 : decode c_Law_times 8 = .ok (.goto 9, 3) := by decide +kernel
theorem d_Law_times_11 : decode c_Law_times 11 = .ok (.astore_n 2, 1) := by decide +kernel
theorem d_Law_times_12 : decode c_Law_times 12 = .ok (.iconst 1, 1) := by decide +kernel
theorem d_Law_times_13 : decode c_Law_times 13 = .ok (.ireturn, 1) := by decide +kernel
theorem d_Law_times_14 : decode c_Law_times 14 = .ok (.astore_n 2, 1) := by decide +kernel
theorem d_Law_times_15 : decode c_Law_times 15 = .ok (.iconst 2, 1) := by decide +kernel
theorem d_Law_times_16 : decode c_Law_times 16 = .ok (.ireturn, 1) := by decide +kernel
theorem d_Law_times_17 : decode c_Law_times 17 = .ok (.iconst 0, 1) := by decide +kernel
theorem d_Law_times_18 : decode c_Law_times 18 = .ok (.ireturn, 1) := by decide +kernel
abbrev c_Law_common : ByteArray := method_10_code
abbrev y_Law_common : MethodName := ⟨"FactorDeskLaw", "common", "(LFactorDesk;[J)I"⟩
theorem d_Law_common_0 : decode c_Law_common 0 = .ok (.aload_n 1, 1) := by decide +kernel
theorem d_Law_common_1 : decode c_Law_common 1 = .ok (.iconst 0, 1) := by decide +kernel
theorem d_Law_common_2 : decode c_Law_common 2 = .ok (.aload_n 0, 1) := by decide +kernel
theorem d_Law_common_3 : decode c_Law_common 3 = .ok (.invokevirtual 40, 3) := by decide +kernel
theorem d_Law_common_6 : decode c_Law_common 6 = .ok (.i2l, 1) := by decide +kernel
theorem d_Law_common_7 : decode c_Law_common 7 = .ok (.lastore, 1) := by decide +kernel
theorem d_Law_common_8 : decode c_Law_common 8 = .ok (.goto 6, 3) := by decide +kernel
theorem d_Law_common_11 : decode c_Law_common 11 = .ok (.astore_n 2, 1) := by decide +kernel
theorem d_Law_common_12 : decode c_Law_common 12 = .ok (.iconst 1, 1) := by decide +kernel
theorem d_Law_common_13 : decode c_Law_common 13 = .ok (.ireturn, 1) := by decide +kernel
theorem d_Law_common_14 : decode c_Law_common 14 = .ok (.iconst 0, 1) := by decide +kernel
theorem d_Law_common_15 : decode c_Law_common 15 = .ok (.ireturn, 1) := by decide +kernel
abbrev c_Law_divides : ByteArray := method_12_code
abbrev y_Law_divides : MethodName := ⟨"FactorDeskLaw", "divides", "(LFactorDesk;[J)I"⟩
theorem d_Law_divides_0 : decode c_Law_divides 0 = .ok (.aload_n 1, 1) := by decide +kernel
theorem d_Law_divides_1 : decode c_Law_divides 1 = .ok (.iconst 0, 1) := by decide +kernel
theorem d_Law_divides_2 : decode c_Law_divides 2 = .ok (.aload_n 0, 1) := by decide +kernel
theorem d_Law_divides_3 : decode c_Law_divides 3 = .ok (.invokevirtual 47, 3) := by decide +kernel
theorem d_Law_divides_6 : decode c_Law_divides 6 = .ok (.ifCond .eq 7, 3) := by decide +kernel
theorem d_Law_divides_9 : decode c_Law_divides 9 = .ok (.lconst 1, 1) := by decide +kernel
theorem d_Law_divides_10 : decode c_Law_divides 10 = .ok (.goto 4, 3) := by decide +kernel
theorem d_Law_divides_13 : decode c_Law_divides 13 = .ok (.lconst 0, 1) := by decide +kernel
theorem d_Law_divides_14 : decode c_Law_divides 14 = .ok (.lastore, 1) := by decide +kernel
theorem d_Law_divides_15 : decode c_Law_divides 15 = .ok (.goto 6, 3) := by decide +kernel
theorem d_Law_divides_18 : decode c_Law_divides 18 = .ok (.astore_n 2, 1) := by decide +kernel
theorem d_Law_divides_19 : decode c_Law_divides 19 = .ok (.iconst 1, 1) := by decide +kernel
theorem d_Law_divides_20 : decode c_Law_divides 20 = .ok (.ireturn, 1) := by decide +kernel
theorem d_Law_divides_21 : decode c_Law_divides 21 = .ok (.iconst 0, 1) := by decide +kernel
theorem d_Law_divides_22 : decode c_Law_divides 22 = .ok (.ireturn, 1) := by decide +kernel
abbrev c_Law_factor : ByteArray := method_7_code
abbrev y_Law_factor : MethodName := ⟨"FactorDeskLaw", "factor", "(LFactorDesk;II[J)I"⟩
theorem d_Law_factor_0 : decode c_Law_factor 0 = .ok (.aload_n 3, 1) := by decide +kernel
theorem d_Law_factor_1 : decode c_Law_factor 1 = .ok (.iconst 0, 1) := by decide +kernel
theorem d_Law_factor_2 : decode c_Law_factor 2 = .ok (.aload_n 0, 1) := by decide +kernel
theorem d_Law_factor_3 : decode c_Law_factor 3 = .ok (.iload_n 1, 1) := by decide +kernel
theorem d_Law_factor_4 : decode c_Law_factor 4 = .ok (.iload_n 2, 1) := by decide +kernel
theorem d_Law_factor_5 : decode c_Law_factor 5 = .ok (.invokevirtual 27, 3) := by decide +kernel
theorem d_Law_factor_8 : decode c_Law_factor 8 = .ok (.i2l, 1) := by decide +kernel
theorem d_Law_factor_9 : decode c_Law_factor 9 = .ok (.lastore, 1) := by decide +kernel
theorem d_Law_factor_10 : decode c_Law_factor 10 = .ok (.goto 7, 3) := by decide +kernel
theorem d_Law_factor_13 : decode c_Law_factor 13 = .ok (.astore 4, 2) := by decide +kernel
theorem d_Law_factor_15 : decode c_Law_factor 15 = .ok (.iconst 1, 1) := by decide +kernel
theorem d_Law_factor_16 : decode c_Law_factor 16 = .ok (.ireturn, 1) := by decide +kernel
theorem d_Law_factor_17 : decode c_Law_factor 17 = .ok (.iconst 0, 1) := by decide +kernel
theorem d_Law_factor_18 : decode c_Law_factor 18 = .ok (.ireturn, 1) := by decide +kernel
abbrev c_Law_part : ByteArray := method_8_code
abbrev y_Law_part : MethodName := ⟨"FactorDeskLaw", "part", "(LFactorDesk;II[J)I"⟩
theorem d_Law_part_0 : decode c_Law_part 0 = .ok (.aload_n 3, 1) := by decide +kernel
theorem d_Law_part_1 : decode c_Law_part 1 = .ok (.iconst 0, 1) := by decide +kernel
theorem d_Law_part_2 : decode c_Law_part 2 = .ok (.aload_n 0, 1) := by decide +kernel
theorem d_Law_part_3 : decode c_Law_part 3 = .ok (.iload_n 1, 1) := by decide +kernel
theorem d_Law_part_4 : decode c_Law_part 4 = .ok (.iload_n 2, 1) := by decide +kernel
theorem d_Law_part_5 : decode c_Law_part 5 = .ok (.invokevirtual 33, 3) := by decide +kernel
theorem d_Law_part_8 : decode c_Law_part 8 = .ok (.lastore, 1) := by decide +kernel
theorem d_Law_part_9 : decode c_Law_part 9 = .ok (.goto 7, 3) := by decide +kernel
theorem d_Law_part_12 : decode c_Law_part 12 = .ok (.astore 4, 2) := by decide +kernel
theorem d_Law_part_14 : decode c_Law_part 14 = .ok (.iconst 1, 1) := by decide +kernel
theorem d_Law_part_15 : decode c_Law_part 15 = .ok (.ireturn, 1) := by decide +kernel
theorem d_Law_part_16 : decode c_Law_part 16 = .ok (.iconst 0, 1) := by decide +kernel
theorem d_Law_part_17 : decode c_Law_part 17 = .ok (.ireturn, 1) := by decide +kernel
theorem g_637 : jG (Jvm.Cond.methodLink "FactorDeskLaw" (7 : Nat) ({ cls := "FactorDesk", name := "put", desc := "(I)I" } : Jvm.MethodName)) := jG_of 702 (by decide +kernel) (by decide +kernel)
theorem g_640 : jG (Jvm.Cond.code ({ cls := "FactorDesk", name := "put", desc := "(I)I" } : Jvm.MethodName) prog_1_method_2_code (2 : Nat) (Option.some Jvm.ClassFile.FieldType.int)) := jG_of 705 (by decide +kernel) (by decide +kernel)
theorem g_638 : jG (Jvm.Cond.instanceMethod ({ cls := "FactorDesk", name := "put", desc := "(I)I" } : Jvm.MethodName)) := jG_of 703 (by decide +kernel) (by decide +kernel)
theorem g_639 : jG (Jvm.Cond.selects "FactorDesk" ({ cls := "FactorDesk", name := "put", desc := "(I)I" } : Jvm.MethodName) ({ cls := "FactorDesk", name := "put", desc := "(I)I" } : Jvm.MethodName)) := jG_of 704 (by decide +kernel) (by decide +kernel)
theorem g_766 : jG (Jvm.Cond.methodLink "FactorDeskLaw" (24 : Nat) ({ cls := "FactorDesk", name := "at", desc := "(I)I" } : Jvm.MethodName)) := jG_of 831 (by decide +kernel) (by decide +kernel)
theorem g_769 : jG (Jvm.Cond.code ({ cls := "FactorDesk", name := "at", desc := "(I)I" } : Jvm.MethodName) prog_1_method_6_code (2 : Nat) (Option.some Jvm.ClassFile.FieldType.int)) := jG_of 834 (by decide +kernel) (by decide +kernel)
theorem g_767 : jG (Jvm.Cond.instanceMethod ({ cls := "FactorDesk", name := "at", desc := "(I)I" } : Jvm.MethodName)) := jG_of 832 (by decide +kernel) (by decide +kernel)
theorem g_768 : jG (Jvm.Cond.selects "FactorDesk" ({ cls := "FactorDesk", name := "at", desc := "(I)I" } : Jvm.MethodName) ({ cls := "FactorDesk", name := "at", desc := "(I)I" } : Jvm.MethodName)) := jG_of 833 (by decide +kernel) (by decide +kernel)
theorem g_806 : jG (Jvm.Cond.methodLink "FactorDeskLaw" (37 : Nat) ({ cls := "FactorDesk", name := "ofDegree", desc := "(I)I" } : Jvm.MethodName)) := jG_of 871 (by decide +kernel) (by decide +kernel)
theorem g_809 : jG (Jvm.Cond.code ({ cls := "FactorDesk", name := "ofDegree", desc := "(I)I" } : Jvm.MethodName) prog_1_method_13_code (2 : Nat) (Option.some Jvm.ClassFile.FieldType.int)) := jG_of 874 (by decide +kernel) (by decide +kernel)
theorem g_807 : jG (Jvm.Cond.instanceMethod ({ cls := "FactorDesk", name := "ofDegree", desc := "(I)I" } : Jvm.MethodName)) := jG_of 872 (by decide +kernel) (by decide +kernel)
theorem g_808 : jG (Jvm.Cond.selects "FactorDesk" ({ cls := "FactorDesk", name := "ofDegree", desc := "(I)I" } : Jvm.MethodName) ({ cls := "FactorDesk", name := "ofDegree", desc := "(I)I" } : Jvm.MethodName)) := jG_of 873 (by decide +kernel) (by decide +kernel)
theorem g_826 : jG (Jvm.Cond.methodLink "FactorDeskLaw" (43 : Nat) ({ cls := "FactorDesk", name := "divisor", desc := "(I)J" } : Jvm.MethodName)) := jG_of 891 (by decide +kernel) (by decide +kernel)
theorem g_829 : jG (Jvm.Cond.code ({ cls := "FactorDesk", name := "divisor", desc := "(I)J" } : Jvm.MethodName) prog_1_method_15_code (2 : Nat) (Option.some Jvm.ClassFile.FieldType.long)) := jG_of 894 (by decide +kernel) (by decide +kernel)
theorem g_827 : jG (Jvm.Cond.instanceMethod ({ cls := "FactorDesk", name := "divisor", desc := "(I)J" } : Jvm.MethodName)) := jG_of 892 (by decide +kernel) (by decide +kernel)
theorem g_828 : jG (Jvm.Cond.selects "FactorDesk" ({ cls := "FactorDesk", name := "divisor", desc := "(I)J" } : Jvm.MethodName) ({ cls := "FactorDesk", name := "divisor", desc := "(I)J" } : Jvm.MethodName)) := jG_of 893 (by decide +kernel) (by decide +kernel)
theorem g_843 : jG (Jvm.Cond.methodLink "FactorDeskLaw" (51 : Nat) ({ cls := "FactorDesk", name := "value", desc := "(JI)J" } : Jvm.MethodName)) := jG_of 908 (by decide +kernel) (by decide +kernel)
theorem g_846 : jG (Jvm.Cond.code ({ cls := "FactorDesk", name := "value", desc := "(JI)J" } : Jvm.MethodName) prog_1_method_17_code (11 : Nat) (Option.some Jvm.ClassFile.FieldType.long)) := jG_of 911 (by decide +kernel) (by decide +kernel)
theorem g_844 : jG (Jvm.Cond.instanceMethod ({ cls := "FactorDesk", name := "value", desc := "(JI)J" } : Jvm.MethodName)) := jG_of 909 (by decide +kernel) (by decide +kernel)
theorem g_845 : jG (Jvm.Cond.selects "FactorDesk" ({ cls := "FactorDesk", name := "value", desc := "(JI)J" } : Jvm.MethodName) ({ cls := "FactorDesk", name := "value", desc := "(JI)J" } : Jvm.MethodName)) := jG_of 910 (by decide +kernel) (by decide +kernel)
theorem g_713 : jG (Jvm.Cond.methodLink "FactorDeskLaw" (15 : Nat) ({ cls := "FactorDesk", name := "take", desc := "()I" } : Jvm.MethodName)) := jG_of 778 (by decide +kernel) (by decide +kernel)
theorem g_716 : jG (Jvm.Cond.code ({ cls := "FactorDesk", name := "take", desc := "()I" } : Jvm.MethodName) prog_1_method_4_code (2 : Nat) (Option.some Jvm.ClassFile.FieldType.int)) := jG_of 781 (by decide +kernel) (by decide +kernel)
theorem g_714 : jG (Jvm.Cond.instanceMethod ({ cls := "FactorDesk", name := "take", desc := "()I" } : Jvm.MethodName)) := jG_of 779 (by decide +kernel) (by decide +kernel)
theorem g_715 : jG (Jvm.Cond.selects "FactorDesk" ({ cls := "FactorDesk", name := "take", desc := "()I" } : Jvm.MethodName) ({ cls := "FactorDesk", name := "take", desc := "()I" } : Jvm.MethodName)) := jG_of 780 (by decide +kernel) (by decide +kernel)
theorem g_712 : jG (Jvm.Cond.classLink "FactorDeskLaw" (19 : Nat) "java/lang/IllegalArgumentException") := jG_of 777 (by decide +kernel) (by decide +kernel)
theorem g_748 : jG (Jvm.Cond.methodLink "FactorDeskLaw" (21 : Nat) ({ cls := "FactorDesk", name := "times", desc := "()I" } : Jvm.MethodName)) := jG_of 813 (by decide +kernel) (by decide +kernel)
theorem g_751 : jG (Jvm.Cond.code ({ cls := "FactorDesk", name := "times", desc := "()I" } : Jvm.MethodName) prog_1_method_5_code (2 : Nat) (Option.some Jvm.ClassFile.FieldType.int)) := jG_of 816 (by decide +kernel) (by decide +kernel)
theorem g_749 : jG (Jvm.Cond.instanceMethod ({ cls := "FactorDesk", name := "times", desc := "()I" } : Jvm.MethodName)) := jG_of 814 (by decide +kernel) (by decide +kernel)
theorem g_750 : jG (Jvm.Cond.selects "FactorDesk" ({ cls := "FactorDesk", name := "times", desc := "()I" } : Jvm.MethodName) ({ cls := "FactorDesk", name := "times", desc := "()I" } : Jvm.MethodName)) := jG_of 815 (by decide +kernel) (by decide +kernel)
theorem g_818 : jG (Jvm.Cond.methodLink "FactorDeskLaw" (40 : Nat) ({ cls := "FactorDesk", name := "common", desc := "()I" } : Jvm.MethodName)) := jG_of 883 (by decide +kernel) (by decide +kernel)
theorem g_821 : jG (Jvm.Cond.code ({ cls := "FactorDesk", name := "common", desc := "()I" } : Jvm.MethodName) prog_1_method_14_code (2 : Nat) (Option.some Jvm.ClassFile.FieldType.int)) := jG_of 886 (by decide +kernel) (by decide +kernel)
theorem g_819 : jG (Jvm.Cond.instanceMethod ({ cls := "FactorDesk", name := "common", desc := "()I" } : Jvm.MethodName)) := jG_of 884 (by decide +kernel) (by decide +kernel)
theorem g_820 : jG (Jvm.Cond.selects "FactorDesk" ({ cls := "FactorDesk", name := "common", desc := "()I" } : Jvm.MethodName) ({ cls := "FactorDesk", name := "common", desc := "()I" } : Jvm.MethodName)) := jG_of 885 (by decide +kernel) (by decide +kernel)
theorem g_834 : jG (Jvm.Cond.methodLink "FactorDeskLaw" (47 : Nat) ({ cls := "FactorDesk", name := "divides", desc := "()Z" } : Jvm.MethodName)) := jG_of 899 (by decide +kernel) (by decide +kernel)
theorem g_837 : jG (Jvm.Cond.code ({ cls := "FactorDesk", name := "divides", desc := "()Z" } : Jvm.MethodName) prog_1_method_16_code (2 : Nat) (Option.some Jvm.ClassFile.FieldType.boolean)) := jG_of 902 (by decide +kernel) (by decide +kernel)
theorem g_835 : jG (Jvm.Cond.instanceMethod ({ cls := "FactorDesk", name := "divides", desc := "()Z" } : Jvm.MethodName)) := jG_of 900 (by decide +kernel) (by decide +kernel)
theorem g_836 : jG (Jvm.Cond.selects "FactorDesk" ({ cls := "FactorDesk", name := "divides", desc := "()Z" } : Jvm.MethodName) ({ cls := "FactorDesk", name := "divides", desc := "()Z" } : Jvm.MethodName)) := jG_of 901 (by decide +kernel) (by decide +kernel)
theorem g_775 : jG (Jvm.Cond.methodLink "FactorDeskLaw" (27 : Nat) ({ cls := "FactorDesk", name := "factor", desc := "(II)I" } : Jvm.MethodName)) := jG_of 840 (by decide +kernel) (by decide +kernel)
theorem g_778 : jG (Jvm.Cond.code ({ cls := "FactorDesk", name := "factor", desc := "(II)I" } : Jvm.MethodName) prog_1_method_10_code (3 : Nat) (Option.some Jvm.ClassFile.FieldType.int)) := jG_of 843 (by decide +kernel) (by decide +kernel)
theorem g_776 : jG (Jvm.Cond.instanceMethod ({ cls := "FactorDesk", name := "factor", desc := "(II)I" } : Jvm.MethodName)) := jG_of 841 (by decide +kernel) (by decide +kernel)
theorem g_777 : jG (Jvm.Cond.selects "FactorDesk" ({ cls := "FactorDesk", name := "factor", desc := "(II)I" } : Jvm.MethodName) ({ cls := "FactorDesk", name := "factor", desc := "(II)I" } : Jvm.MethodName)) := jG_of 842 (by decide +kernel) (by decide +kernel)
theorem g_774 : jG (Jvm.Cond.classLink "FactorDeskLaw" (31 : Nat) "java/util/NoSuchElementException") := jG_of 839 (by decide +kernel) (by decide +kernel)
theorem g_798 : jG (Jvm.Cond.methodLink "FactorDeskLaw" (33 : Nat) ({ cls := "FactorDesk", name := "part", desc := "(II)J" } : Jvm.MethodName)) := jG_of 863 (by decide +kernel) (by decide +kernel)
theorem g_801 : jG (Jvm.Cond.code ({ cls := "FactorDesk", name := "part", desc := "(II)J" } : Jvm.MethodName) prog_1_method_11_code (3 : Nat) (Option.some Jvm.ClassFile.FieldType.long)) := jG_of 866 (by decide +kernel) (by decide +kernel)
theorem g_799 : jG (Jvm.Cond.instanceMethod ({ cls := "FactorDesk", name := "part", desc := "(II)J" } : Jvm.MethodName)) := jG_of 864 (by decide +kernel) (by decide +kernel)
theorem g_800 : jG (Jvm.Cond.selects "FactorDesk" ({ cls := "FactorDesk", name := "part", desc := "(II)J" } : Jvm.MethodName) ({ cls := "FactorDesk", name := "part", desc := "(II)J" } : Jvm.MethodName)) := jG_of 865 (by decide +kernel) (by decide +kernel)
theorem vcl_ok : ∀ q ∈ vcl, (∀ w ∈ u_ws q.1 q.2.1 q.2.2, w ∈ lw_tbl) ∧ ∃ n, Cond.instantiable q.1 n ∈ lw_tbl := by
  intro q hq
  simp only [vcl, List.mem_cons, List.not_mem_nil, or_false] at hq
  rcases hq with rfl | rfl | rfl | rfl | rfl | rfl | rfl | rfl | rfl | rfl
  · exact ⟨fun w hw => (iw_Poly w hw).1, 2, by decide +kernel⟩
  · exact ⟨fun w hw => (iw_FList w hw).1, 3, by decide +kernel⟩
  · exact ⟨fun w hw => (iw_Divn w hw).1, 2, by decide +kernel⟩
  · exact ⟨fun w hw => (iw_Resi w hw).1, 5, by decide +kernel⟩
  · exact ⟨fun w hw => (iw_CDiv w hw).1, 7, by decide +kernel⟩
  · exact ⟨fun w hw => (iw_MSpl w hw).1, 11, by decide +kernel⟩
  · exact ⟨fun w hw => (iw_Lift w hw).1, 11, by decide +kernel⟩
  · exact ⟨fun w hw => (iw_Splt w hw).1, 9, by decide +kernel⟩
  · exact ⟨fun w hw => (iw_Desk w hw).1, 10, by decide +kernel⟩
  · exact ⟨fun w hw => (iw_Modl w hw).1, 35, by decide +kernel⟩
theorem j_start {b : Nat} {s : State} (hts : ∀ w ∈ lw_tbl, w.before #[Value.ref b] s = true) (hg : (Jvm.Cond.and given_1 narrow_1).before #[Value.ref b] s = true) : ∃ (D : va_G) (Y : Nat → ClassId), jS0 b D Y s := by
  have HC : ∀ c : Nat, ∃ f : ClassId × (Nat → Nat), ∀ q : vw_C, vcl[c]? = some q → u_Kn s q.1 q.2.1 q.2.2 f.1 f.2 := by
    intro c
    by_cases hc : ∃ q, vcl[c]? = some q
    · obtain ⟨q, hq⟩ := hc
      obtain ⟨h1, n, h2⟩ := vcl_ok q (List.mem_of_getElem? hq)
      obtain ⟨cC, iS, hK⟩ := u_known (ws := lw_tbl) hts h1 (hts _ h2)
      exact ⟨(cC, iS), fun q2 h2 => by rw [hq] at h2; cases h2; exact hK⟩
    · exact ⟨(0, fun _ => 0), fun q hq => absurd ⟨q, hq⟩ hc⟩
  obtain ⟨f, hf⟩ := Classical.skolem.mp HC
  have wk : ∀ {w : Cond}, w ∈ lw_tbl → w.before #[Value.ref b] s = true := fun hw => hts _ hw
  obtain ⟨c0, k0, m0, a0, b0, d0⟩ := Cond.arrayClass_spec (wk (w := .arrayClass .int) (by decide +kernel))
  obtain ⟨c1, k1, m1, a1, b1, d1⟩ := Cond.arrayClass_spec (wk (w := .arrayClass .long) (by decide +kernel))
  obtain ⟨c2, k2, m2, a2, b2, d2⟩ := Cond.arrayClass_spec (wk (w := .arrayClass .boolean) (by decide +kernel))
  obtain ⟨m3, c3, k3, g3, -, b3, d3, a3⟩ := Cond.arrayOver_spec (wk (w := .arrayOver (.object "FactorDesk$Poly")) (by decide +kernel))
  obtain ⟨m4, c4, k4, -, b4, d4, a4⟩ := jao_spec (wk (w := .arrayOver (.array .long)) (by decide +kernel))
  refine ⟨(fun c => (f c).1, fun c => (f c).2), fun i => [c0, c1, c2, c3, c4].getD i 0, hts, hg, fun c q hq => hf c q hq, fun k q hk => ?_⟩
  match k, hk with
  | 0, hk => cases hk; exact ⟨fun N z => ⟨(fun k h => by cases h), k0, b0, m0, d0⟩, a0⟩
  | 1, hk => cases hk; exact ⟨fun N z => ⟨(fun k h => by cases h), k1, b1, m1, d1⟩, a1⟩
  | 2, hk => cases hk; exact ⟨fun N z => ⟨(fun k h => by cases h), k2, b2, m2, d2⟩, a2⟩
  | 3, hk => cases hk; exact ⟨fun N z => ⟨(fun k h => by cases h), k3, b3, m3, d3⟩, k3, m3, b3, d3, g3, a3⟩
  | 4, hk => cases hk; exact ⟨fun N z => ⟨(fun k h => by cases h), k4, b4, m4, d4⟩, a4⟩
  | k + 5, hk => cases hk
theorem jx_tab {es : List ExceptionTableEntry} {s e hp ct : Nat} {hh : List (Nat × Nat × Nat × Nat)} (h : es.map (fun h => (h.startPc, h.endPc, h.handlerPc, h.catchType)) = (s, e, hp, ct) :: hh) : ∃ rest, es = ⟨s, e, hp, ct⟩ :: rest := by
  cases es with
  | nil => cases h
  | cons x rest =>
    obtain ⟨a, b, c, d⟩ := x
    simp only [List.map_cons, List.cons.injEq, Prod.mk.injEq] at h
    obtain ⟨⟨rfl, rfl, rfl, rfl⟩, -⟩ := h
    exact ⟨rest, rfl⟩
set_option maxHeartbeats 4000000 in
set_option maxRecDepth 100000 in
theorem w_put (l : Launch) {b : Nat} {D : va_G} {Y : Nat → ClassId} {s0 : State} (Z : jS0 b D Y s0) (d rr n : Nat) (h : jH) (HD : jDesk Y h d) (x0 : Int32) (f : Nat → Int64) (hrr : d + 208 ≤ rr) (HR : h rr = some (.inl (Y 1, 1, .inr (.inl f)))) : jMetW l D s0 y_Law_put c_Law_put 4 (some .int) [((0 : Nat), (9 : Nat), (12 : Nat), (13 : Nat))] 7 [.ref d, .int x0, .ref rr] h n 0 0 (fun r h2 n2 => r = some (.int 0) ∧ n = n2 ∧ h2 rr = some (.inl (Y 1, 1, .inr (.inl (vp_updL f 0 ((1 : Int32).toInt64))))) ∧ ∀ x, (x < d ∨ d + 208 ≤ x) → x ≠ rr → h2 x = h x) := by
  refine jMetW_of Z (by decide) (Nat.le_of_ble_eq_true rfl) ?_
  intro p e s m below meth c hnl
  refine j_aload_n d_Law_put_0 2 rfl ?_
  refine j_iconst d_Law_put_1 (v := 0) (by decide) ?_
  refine j_aload_n d_Law_put_2 0 rfl ?_
  refine j_iload_n d_Law_put_3 1 rfl ?_
  refine j_callV (k_put l Z d _ _ HD x0) ⟨⟨Nat.le_of_ble_eq_true rfl, Nat.le_of_ble_eq_true rfl⟩, g_637, g_640, g_1, (by decide +kernel), (by decide +kernel), (show _ = some 1 from by decide +kernel)⟩ g_638 g_639 (ci := 8) rfl HD.1 ⟨(by first | exact Nat.le_of_ble_eq_true rfl | (simp only [jrm]; omega)), (by first | exact Nat.le_of_ble_eq_true rfl | (simp only [jrm]; omega))⟩ (Nat.le_of_ble_eq_true rfl) d_Law_put_4 (fun r0 h0 n0 P0 => ?_)
  obtain ⟨rfl, rfl, F0⟩ := P0
  refine j_i2l d_Law_put_7 rfl ?_
  refine j_last d_Law_put_8 ((F0 rr (by omega)).trans HR) (by unfold vp_in; decide) ?_
  refine j_goto (tgt := 15) d_Law_put_9 (by decide) ?_
  refine j_iconst d_Law_put_15 (v := 0) (by decide) ?_
  exact j_iret rfl d_Law_put_16 ⟨rfl, rfl, (jh_up_s _ _ _), fun x hx hx2 => ((jh_up_n _ _ (by omega)).trans (F0 x (by omega)))⟩
set_option maxHeartbeats 4000000 in
set_option maxRecDepth 100000 in
theorem w_at (l : Launch) {b : Nat} {D : va_G} {Y : Nat → ClassId} {s0 : State} (Z : jS0 b D Y s0) (d rr n : Nat) (h : jH) (HD : jDesk Y h d) (x0 : Int32) (h1 : ¬ x0 < 0) (h2 : x0 ≤ 12) (f : Nat → Int64) (hrr : d + 208 ≤ rr) (HR : h rr = some (.inl (Y 1, 1, .inr (.inl f)))) : jMetW l D s0 y_Law_at c_Law_at 4 (some .int) [((0 : Nat), (9 : Nat), (12 : Nat), (19 : Nat))] 7 [.ref d, .int x0, .ref rr] h n 0 0 (fun r h2 n2 => r = some (.int 0) ∧ n = n2 ∧ h2 rr = some (.inl (Y 1, 1, .inr (.inl (vp_updL f 0 ((jOne x0.toNatClampNeg).toInt32.toInt64))))) ∧ ∀ x, (x < d ∨ d + 208 ≤ x) → x ≠ rr → h2 x = h x) := by
  refine jMetW_of Z (by decide) (Nat.le_of_ble_eq_true rfl) ?_
  intro p e s m below meth c hnl
  refine j_aload_n d_Law_at_0 2 rfl ?_
  refine j_iconst d_Law_at_1 (v := 0) (by decide) ?_
  refine j_aload_n d_Law_at_2 0 rfl ?_
  refine j_iload_n d_Law_at_3 1 rfl ?_
  refine j_callV (k_at l Z d _ _ HD x0 h1 h2) ⟨⟨Nat.le_of_ble_eq_true rfl, Nat.le_of_ble_eq_true rfl⟩, g_766, g_769, g_1, (by decide +kernel), (by decide +kernel), (show _ = some 1 from by decide +kernel)⟩ g_767 g_768 (ci := 8) rfl HD.1 ⟨(by first | exact Nat.le_of_ble_eq_true rfl | (simp only [jrm]; omega)), (by first | exact Nat.le_of_ble_eq_true rfl | (simp only [jrm]; omega))⟩ (Nat.le_of_ble_eq_true rfl) d_Law_at_4 (fun r0 h0 n0 P0 => ?_)
  obtain ⟨rfl, rfl, F0⟩ := P0
  refine j_i2l d_Law_at_7 rfl ?_
  refine j_last d_Law_at_8 ((F0 rr (by omega)).trans HR) (by unfold vp_in; decide) ?_
  refine j_goto (tgt := 15) d_Law_at_9 (by decide) ?_
  refine j_iconst d_Law_at_15 (v := 0) (by decide) ?_
  exact j_iret rfl d_Law_at_16 ⟨rfl, rfl, (jh_up_s _ _ _), fun x hx hx2 => ((jh_up_n _ _ (by omega)).trans (F0 x (by omega)))⟩
set_option maxHeartbeats 4000000 in
set_option maxRecDepth 100000 in
theorem w_ofDegree (l : Launch) {b : Nat} {D : va_G} {Y : Nat → ClassId} {s0 : State} (Z : jS0 b D Y s0) (d rr n : Nat) (h : jH) (HD : jDesk Y h d) (x0 : Int32) (h1 : ¬ x0 < 1) (h2 : x0 ≤ 12) (f : Nat → Int64) (hrr : d + 208 ≤ rr) (HR : h rr = some (.inl (Y 1, 1, .inr (.inl f)))) : jMetW l D s0 y_Law_ofDegree c_Law_ofDegree 4 (some .int) [((0 : Nat), (9 : Nat), (12 : Nat), (19 : Nat))] 7 [.ref d, .int x0, .ref rr] h n 0 0 (fun r h2 n2 => r = some (.int 0) ∧ n = n2 ∧ h2 rr = some (.inl (Y 1, 1, .inr (.inl (vp_updL f 0 ((0 : Int32).toInt64))))) ∧ ∀ x, (x < d ∨ d + 208 ≤ x) → x ≠ rr → h2 x = h x) := by
  refine jMetW_of Z (by decide) (Nat.le_of_ble_eq_true rfl) ?_
  intro p e s m below meth c hnl
  refine j_aload_n d_Law_ofDegree_0 2 rfl ?_
  refine j_iconst d_Law_ofDegree_1 (v := 0) (by decide) ?_
  refine j_aload_n d_Law_ofDegree_2 0 rfl ?_
  refine j_iload_n d_Law_ofDegree_3 1 rfl ?_
  refine j_callV (k_ofDegree l Z d _ _ HD x0 h1 h2) ⟨⟨Nat.le_of_ble_eq_true rfl, Nat.le_of_ble_eq_true rfl⟩, g_806, g_809, g_1, (by decide +kernel), (by decide +kernel), (show _ = some 1 from by decide +kernel)⟩ g_807 g_808 (ci := 8) rfl HD.1 ⟨(by first | exact Nat.le_of_ble_eq_true rfl | (simp only [jrm]; omega)), (by first | exact Nat.le_of_ble_eq_true rfl | (simp only [jrm]; omega))⟩ (Nat.le_of_ble_eq_true rfl) d_Law_ofDegree_4 (fun r0 h0 n0 P0 => ?_)
  obtain ⟨rfl, rfl, F0⟩ := P0
  refine j_i2l d_Law_ofDegree_7 rfl ?_
  refine j_last d_Law_ofDegree_8 ((F0 rr (by omega)).trans HR) (by unfold vp_in; decide) ?_
  refine j_goto (tgt := 15) d_Law_ofDegree_9 (by decide) ?_
  refine j_iconst d_Law_ofDegree_15 (v := 0) (by decide) ?_
  exact j_iret rfl d_Law_ofDegree_16 ⟨rfl, rfl, (jh_up_s _ _ _), fun x hx hx2 => ((jh_up_n _ _ (by omega)).trans (F0 x (by omega)))⟩
set_option maxHeartbeats 4000000 in
set_option maxRecDepth 100000 in
theorem w_divisor (l : Launch) {b : Nat} {D : va_G} {Y : Nat → ClassId} {s0 : State} (Z : jS0 b D Y s0) (d rr n : Nat) (h : jH) (HD : jDesk Y h d) (f : Nat → Int64) (hrr : d + 208 ≤ rr) (HR : h rr = some (.inl (Y 1, 1, .inr (.inl f)))) : jMetW l D s0 y_Law_divisor c_Law_divisor 4 (some .int) [((0 : Nat), (8 : Nat), (11 : Nat), (31 : Nat))] 7 [.ref d, .int 0, .ref rr] h n 0 0 (fun r h2 n2 => r = some (.int 0) ∧ n = n2 ∧ h2 rr = some (.inl (Y 1, 1, .inr (.inl (vp_updL f 0 (1))))) ∧ ∀ x, (x < d ∨ d + 208 ≤ x) → x ≠ rr → h2 x = h x) := by
  refine jMetW_of Z (by decide) (Nat.le_of_ble_eq_true rfl) ?_
  intro p e s m below meth c hnl
  refine j_aload_n d_Law_divisor_0 2 rfl ?_
  refine j_iconst d_Law_divisor_1 (v := 0) (by decide) ?_
  refine j_aload_n d_Law_divisor_2 0 rfl ?_
  refine j_iload_n d_Law_divisor_3 1 rfl ?_
  refine j_callV (k_divisor l Z d _ _ HD) ⟨⟨Nat.le_of_ble_eq_true rfl, Nat.le_of_ble_eq_true rfl⟩, g_826, g_829, g_1, (by decide +kernel), (by decide +kernel), (show _ = some 1 from by decide +kernel)⟩ g_827 g_828 (ci := 8) rfl HD.1 ⟨(by first | exact Nat.le_of_ble_eq_true rfl | (simp only [jrm]; omega)), (by first | exact Nat.le_of_ble_eq_true rfl | (simp only [jrm]; omega))⟩ (Nat.le_of_ble_eq_true rfl) d_Law_divisor_4 (fun r0 h0 n0 P0 => ?_)
  obtain ⟨rfl, rfl, F0⟩ := P0
  refine j_last d_Law_divisor_7 ((F0 rr (by omega)).trans HR) (by unfold vp_in; decide) ?_
  refine j_goto (tgt := 14) d_Law_divisor_8 (by decide) ?_
  refine j_iconst d_Law_divisor_14 (v := 0) (by decide) ?_
  exact j_iret rfl d_Law_divisor_15 ⟨rfl, rfl, (jh_up_s _ _ _), fun x hx hx2 => ((jh_up_n _ _ (by omega)).trans (F0 x (by omega)))⟩
set_option maxHeartbeats 4000000 in
set_option maxRecDepth 100000 in
theorem w_value (l : Launch) {b : Nat} {D : va_G} {Y : Nat → ClassId} {s0 : State} (Z : jS0 b D Y s0) (d rr n : Nat) (h : jH) (HD : jDesk Y h d) (x0 : Int64) (m0 : Int32) (h1 : 1 ≤ m0) (hm : ¬ m0.toInt64 = 0) (f : Nat → Int64) (hrr : d + 208 ≤ rr) (HR : h rr = some (.inl (Y 1, 1, .inr (.inl f)))) : jMetW l D s0 y_Law_value c_Law_value 6 (some .int) [((0 : Nat), (10 : Nat), (13 : Nat), (19 : Nat))] 7 [.ref d, .long x0, .int m0, .ref rr] h n 0 0 (fun r h2 n2 => r = some (.int 0) ∧ n = n2 ∧ h2 rr = some (.inl (Y 1, 1, .inr (.inl (vp_updL f 0 (jfm (0 * jfm x0 m0.toInt64 + 1) m0.toInt64))))) ∧ ∀ x, (x < d ∨ d + 208 ≤ x) → x ≠ rr → h2 x = h x) := by
  refine jMetW_of Z (by decide) (Nat.le_of_ble_eq_true rfl) ?_
  intro p e s m below meth c hnl
  refine j_aload d_Law_value_0 3 rfl ?_
  refine j_iconst d_Law_value_2 (v := 0) (by decide) ?_
  refine j_aload_n d_Law_value_3 0 rfl ?_
  refine j_lload_n d_Law_value_4 1 rfl ?_
  refine j_iload_n d_Law_value_5 2 rfl ?_
  refine j_callV (k_value l Z d _ _ HD x0 m0 h1 hm) ⟨⟨Nat.le_of_ble_eq_true rfl, Nat.le_of_ble_eq_true rfl⟩, g_843, g_846, g_1, (by decide +kernel), (by decide +kernel), (show _ = some 2 from by decide +kernel)⟩ g_844 g_845 (ci := 8) rfl HD.1 ⟨(by first | exact Nat.le_of_ble_eq_true rfl | (simp only [jrm]; omega)), (by first | exact Nat.le_of_ble_eq_true rfl | (simp only [jrm]; omega))⟩ (Nat.le_of_ble_eq_true rfl) d_Law_value_6 (fun r0 h0 n0 P0 => ?_)
  obtain ⟨rfl, rfl, F0⟩ := P0
  refine j_last d_Law_value_9 ((F0 rr (by omega)).trans HR) (by unfold vp_in; decide) ?_
  refine j_goto (tgt := 17) d_Law_value_10 (by decide) ?_
  refine j_iconst d_Law_value_17 (v := 0) (by decide) ?_
  exact j_iret rfl d_Law_value_18 ⟨rfl, rfl, (jh_up_s _ _ _), fun x hx hx2 => ((jh_up_n _ _ (by omega)).trans (F0 x (by omega)))⟩
set_option maxHeartbeats 4000000 in
set_option maxRecDepth 100000 in
theorem wx_take (l : Launch) {b : Nat} {D : va_G} {Y : Nat → ClassId} {s0 : State} (Z : jS0 b D Y s0) (hlt : l.stackTraces = false) (d rr n : Nat) (h : jH) (HD : jDesk Y h d) : jMetW l D s0 y_Law_take c_Law_take 3 (some .int) [((0 : Nat), (8 : Nat), (11 : Nat), (19 : Nat))] 7 [.ref d, .ref rr] h n 1 6 (fun r h2 n2 => r = some (.int 1) ∧ h = h2 ∧ n + 1 = n2) := by
  refine jMetW_of Z (by decide) (Nat.le_of_ble_eq_true rfl) ?_
  intro p e s m below meth c hnl
  obtain ⟨rest, hx⟩ := jx_tab hnl
  refine j_aload_n d_Law_take_0 1 rfl ?_
  refine j_iconst d_Law_take_1 (v := 0) (by decide) ?_
  refine j_aload_n d_Law_take_2 0 rfl ?_
  refine j_callVX (x_take l Z hlt d _ _ HD) ⟨⟨Nat.le_of_ble_eq_true rfl, Nat.le_of_ble_eq_true rfl⟩, g_713, g_716, g_1, by decide +kernel⟩ g_714 g_715 (ci := 8) rfl HD.1 ⟨(by first | exact Nat.le_of_ble_eq_true rfl | (simp only [jrm]; omega)), (by first | exact Nat.le_of_ble_eq_true rfl | (simp only [jrm]; omega))⟩ (Nat.le_of_ble_eq_true rfl) d_Law_take_3 hx (by decide) (by decide) g_712 (fun q h0 n0 P0 => ?_)
  obtain ⟨e1, e2⟩ := P0
  subst e1
  subst e2
  refine j_astore_n d_Law_take_11 (Nat.le_of_ble_eq_true rfl) rfl ?_
  refine j_iconst d_Law_take_12 (v := 1) (by decide) ?_
  exact j_iret rfl d_Law_take_13 ⟨rfl, rfl, rfl⟩
set_option maxHeartbeats 4000000 in
set_option maxRecDepth 100000 in
theorem wx_times (l : Launch) {b : Nat} {D : va_G} {Y : Nat → ClassId} {s0 : State} (Z : jS0 b D Y s0) (hlt : l.stackTraces = false) (d rr n : Nat) (h : jH) (HD : jDesk Y h d) : jMetW l D s0 y_Law_times c_Law_times 3 (some .int) [((0 : Nat), (8 : Nat), (11 : Nat), (19 : Nat)), ((0 : Nat), (8 : Nat), (14 : Nat), (13 : Nat))] 7 [.ref d, .ref rr] h n 1 6 (fun r h2 n2 => r = some (.int 1) ∧ h = h2 ∧ n + 1 = n2) := by
  refine jMetW_of Z (by decide) (Nat.le_of_ble_eq_true rfl) ?_
  intro p e s m below meth c hnl
  obtain ⟨rest, hx⟩ := jx_tab hnl
  refine j_aload_n d_Law_times_0 1 rfl ?_
  refine j_iconst d_Law_times_1 (v := 0) (by decide) ?_
  refine j_aload_n d_Law_times_2 0 rfl ?_
  refine j_callVX (x_times l Z hlt d _ _ HD) ⟨⟨Nat.le_of_ble_eq_true rfl, Nat.le_of_ble_eq_true rfl⟩, g_748, g_751, g_1, by decide +kernel⟩ g_749 g_750 (ci := 8) rfl HD.1 ⟨(by first | exact Nat.le_of_ble_eq_true rfl | (simp only [jrm]; omega)), (by first | exact Nat.le_of_ble_eq_true rfl | (simp only [jrm]; omega))⟩ (Nat.le_of_ble_eq_true rfl) d_Law_times_3 hx (by decide) (by decide) g_712 (fun q h0 n0 P0 => ?_)
  obtain ⟨e1, e2⟩ := P0
  subst e1
  subst e2
  refine j_astore_n d_Law_times_11 (Nat.le_of_ble_eq_true rfl) rfl ?_
  refine j_iconst d_Law_times_12 (v := 1) (by decide) ?_
  exact j_iret rfl d_Law_times_13 ⟨rfl, rfl, rfl⟩
set_option maxHeartbeats 4000000 in
set_option maxRecDepth 100000 in
theorem wx_common (l : Launch) {b : Nat} {D : va_G} {Y : Nat → ClassId} {s0 : State} (Z : jS0 b D Y s0) (hlt : l.stackTraces = false) (d rr n : Nat) (h : jH) (HD : jDesk Y h d) : jMetW l D s0 y_Law_common c_Law_common 3 (some .int) [((0 : Nat), (8 : Nat), (11 : Nat), (19 : Nat))] 7 [.ref d, .ref rr] h n 1 6 (fun r h2 n2 => r = some (.int 1) ∧ h = h2 ∧ n + 1 = n2) := by
  refine jMetW_of Z (by decide) (Nat.le_of_ble_eq_true rfl) ?_
  intro p e s m below meth c hnl
  obtain ⟨rest, hx⟩ := jx_tab hnl
  refine j_aload_n d_Law_common_0 1 rfl ?_
  refine j_iconst d_Law_common_1 (v := 0) (by decide) ?_
  refine j_aload_n d_Law_common_2 0 rfl ?_
  refine j_callVX (x_common l Z hlt d _ _ HD) ⟨⟨Nat.le_of_ble_eq_true rfl, Nat.le_of_ble_eq_true rfl⟩, g_818, g_821, g_1, by decide +kernel⟩ g_819 g_820 (ci := 8) rfl HD.1 ⟨(by first | exact Nat.le_of_ble_eq_true rfl | (simp only [jrm]; omega)), (by first | exact Nat.le_of_ble_eq_true rfl | (simp only [jrm]; omega))⟩ (Nat.le_of_ble_eq_true rfl) d_Law_common_3 hx (by decide) (by decide) g_712 (fun q h0 n0 P0 => ?_)
  obtain ⟨e1, e2⟩ := P0
  subst e1
  subst e2
  refine j_astore_n d_Law_common_11 (Nat.le_of_ble_eq_true rfl) rfl ?_
  refine j_iconst d_Law_common_12 (v := 1) (by decide) ?_
  exact j_iret rfl d_Law_common_13 ⟨rfl, rfl, rfl⟩
set_option maxHeartbeats 4000000 in
set_option maxRecDepth 100000 in
theorem wx_divides (l : Launch) {b : Nat} {D : va_G} {Y : Nat → ClassId} {s0 : State} (Z : jS0 b D Y s0) (hlt : l.stackTraces = false) (d rr n : Nat) (h : jH) (HD : jDesk Y h d) : jMetW l D s0 y_Law_divides c_Law_divides 3 (some .int) [((0 : Nat), (15 : Nat), (18 : Nat), (19 : Nat))] 7 [.ref d, .ref rr] h n 1 6 (fun r h2 n2 => r = some (.int 1) ∧ h = h2 ∧ n + 1 = n2) := by
  refine jMetW_of Z (by decide) (Nat.le_of_ble_eq_true rfl) ?_
  intro p e s m below meth c hnl
  obtain ⟨rest, hx⟩ := jx_tab hnl
  refine j_aload_n d_Law_divides_0 1 rfl ?_
  refine j_iconst d_Law_divides_1 (v := 0) (by decide) ?_
  refine j_aload_n d_Law_divides_2 0 rfl ?_
  refine j_callVX (x_divides l Z hlt d _ _ HD) ⟨⟨Nat.le_of_ble_eq_true rfl, Nat.le_of_ble_eq_true rfl⟩, g_834, g_837, g_1, by decide +kernel⟩ g_835 g_836 (ci := 8) rfl HD.1 ⟨(by first | exact Nat.le_of_ble_eq_true rfl | (simp only [jrm]; omega)), (by first | exact Nat.le_of_ble_eq_true rfl | (simp only [jrm]; omega))⟩ (Nat.le_of_ble_eq_true rfl) d_Law_divides_3 hx (by decide) (by decide) g_712 (fun q h0 n0 P0 => ?_)
  obtain ⟨e1, e2⟩ := P0
  subst e1
  subst e2
  refine j_astore_n d_Law_divides_18 (Nat.le_of_ble_eq_true rfl) rfl ?_
  refine j_iconst d_Law_divides_19 (v := 1) (by decide) ?_
  exact j_iret rfl d_Law_divides_20 ⟨rfl, rfl, rfl⟩
set_option maxHeartbeats 4000000 in
set_option maxRecDepth 100000 in
theorem wx_at (l : Launch) {b : Nat} {D : va_G} {Y : Nat → ClassId} {s0 : State} (Z : jS0 b D Y s0) (hlt : l.stackTraces = false) (d rr n : Nat) (h : jH) (HD : jDesk Y h d) (x0 : Int32) (h1 : x0 < 0 ∨ ¬ x0 ≤ 12) : jMetW l D s0 y_Law_at c_Law_at 4 (some .int) [((0 : Nat), (9 : Nat), (12 : Nat), (19 : Nat))] 7 [.ref d, .int x0, .ref rr] h n 1 6 (fun r h2 n2 => r = some (.int 1) ∧ h = h2 ∧ n + 1 = n2) := by
  refine jMetW_of Z (by decide) (Nat.le_of_ble_eq_true rfl) ?_
  intro p e s m below meth c hnl
  obtain ⟨rest, hx⟩ := jx_tab hnl
  refine j_aload_n d_Law_at_0 2 rfl ?_
  refine j_iconst d_Law_at_1 (v := 0) (by decide) ?_
  refine j_aload_n d_Law_at_2 0 rfl ?_
  refine j_iload_n d_Law_at_3 1 rfl ?_
  refine j_callVX (x_at l Z hlt d _ _ HD x0 h1) ⟨⟨Nat.le_of_ble_eq_true rfl, Nat.le_of_ble_eq_true rfl⟩, g_766, g_769, g_1, (by decide +kernel), (by decide +kernel), (show _ = some 1 from by decide +kernel)⟩ g_767 g_768 (ci := 8) rfl HD.1 ⟨(by first | exact Nat.le_of_ble_eq_true rfl | (simp only [jrm]; omega)), (by first | exact Nat.le_of_ble_eq_true rfl | (simp only [jrm]; omega))⟩ (Nat.le_of_ble_eq_true rfl) d_Law_at_4 hx (by decide) (by decide) g_712 (fun q h0 n0 P0 => ?_)
  obtain ⟨e1, e2⟩ := P0
  subst e1
  subst e2
  refine j_astore_n d_Law_at_12 (Nat.le_of_ble_eq_true rfl) rfl ?_
  refine j_iconst d_Law_at_13 (v := 1) (by decide) ?_
  exact j_iret rfl d_Law_at_14 ⟨rfl, rfl, rfl⟩
set_option maxHeartbeats 4000000 in
set_option maxRecDepth 100000 in
theorem wx_ofDegree (l : Launch) {b : Nat} {D : va_G} {Y : Nat → ClassId} {s0 : State} (Z : jS0 b D Y s0) (hlt : l.stackTraces = false) (d rr n : Nat) (h : jH) (HD : jDesk Y h d) (x0 : Int32) (h1 : x0 < 1 ∨ ¬ x0 ≤ 12) : jMetW l D s0 y_Law_ofDegree c_Law_ofDegree 4 (some .int) [((0 : Nat), (9 : Nat), (12 : Nat), (19 : Nat))] 7 [.ref d, .int x0, .ref rr] h n 1 6 (fun r h2 n2 => r = some (.int 1) ∧ h = h2 ∧ n + 1 = n2) := by
  refine jMetW_of Z (by decide) (Nat.le_of_ble_eq_true rfl) ?_
  intro p e s m below meth c hnl
  obtain ⟨rest, hx⟩ := jx_tab hnl
  refine j_aload_n d_Law_ofDegree_0 2 rfl ?_
  refine j_iconst d_Law_ofDegree_1 (v := 0) (by decide) ?_
  refine j_aload_n d_Law_ofDegree_2 0 rfl ?_
  refine j_iload_n d_Law_ofDegree_3 1 rfl ?_
  refine j_callVX (x_ofDegree l Z hlt d _ _ HD x0 h1) ⟨⟨Nat.le_of_ble_eq_true rfl, Nat.le_of_ble_eq_true rfl⟩, g_806, g_809, g_1, (by decide +kernel), (by decide +kernel), (show _ = some 1 from by decide +kernel)⟩ g_807 g_808 (ci := 8) rfl HD.1 ⟨(by first | exact Nat.le_of_ble_eq_true rfl | (simp only [jrm]; omega)), (by first | exact Nat.le_of_ble_eq_true rfl | (simp only [jrm]; omega))⟩ (Nat.le_of_ble_eq_true rfl) d_Law_ofDegree_4 hx (by decide) (by decide) g_712 (fun q h0 n0 P0 => ?_)
  obtain ⟨e1, e2⟩ := P0
  subst e1
  subst e2
  refine j_astore_n d_Law_ofDegree_12 (Nat.le_of_ble_eq_true rfl) rfl ?_
  refine j_iconst d_Law_ofDegree_13 (v := 1) (by decide) ?_
  exact j_iret rfl d_Law_ofDegree_14 ⟨rfl, rfl, rfl⟩
set_option maxHeartbeats 4000000 in
set_option maxRecDepth 100000 in
theorem wx_factor (l : Launch) {b : Nat} {D : va_G} {Y : Nat → ClassId} {s0 : State} (Z : jS0 b D Y s0) (hlt : l.stackTraces = false) (d rr n : Nat) (h : jH) (HD : jDesk Y h d) (x0 x1 : Int32) : jMetW l D s0 y_Law_factor c_Law_factor 5 (some .int) [((0 : Nat), (10 : Nat), (13 : Nat), (31 : Nat))] 7 [.ref d, .int x0, .int x1, .ref rr] h n 1 6 (fun r h2 n2 => r = some (.int 1) ∧ h = h2 ∧ n + 1 = n2) := by
  refine jMetW_of Z (by decide) (Nat.le_of_ble_eq_true rfl) ?_
  intro p e s m below meth c hnl
  obtain ⟨rest, hx⟩ := jx_tab hnl
  refine j_aload_n d_Law_factor_0 3 rfl ?_
  refine j_iconst d_Law_factor_1 (v := 0) (by decide) ?_
  refine j_aload_n d_Law_factor_2 0 rfl ?_
  refine j_iload_n d_Law_factor_3 1 rfl ?_
  refine j_iload_n d_Law_factor_4 2 rfl ?_
  refine j_callVX (x_factor l Z hlt d _ _ HD x0 x1) ⟨⟨Nat.le_of_ble_eq_true rfl, Nat.le_of_ble_eq_true rfl⟩, g_775, g_778, g_1, (by decide +kernel), (by decide +kernel), (show _ = some 2 from by decide +kernel)⟩ g_776 g_777 (ci := 8) rfl HD.1 ⟨(by first | exact Nat.le_of_ble_eq_true rfl | (simp only [jrm]; omega)), (by first | exact Nat.le_of_ble_eq_true rfl | (simp only [jrm]; omega))⟩ (Nat.le_of_ble_eq_true rfl) d_Law_factor_5 hx (by decide) (by decide) g_774 (fun q h0 n0 P0 => ?_)
  obtain ⟨e1, e2⟩ := P0
  subst e1
  subst e2
  refine j_astore d_Law_factor_13 (Nat.le_of_ble_eq_true rfl) rfl ?_
  refine j_iconst d_Law_factor_15 (v := 1) (by decide) ?_
  exact j_iret rfl d_Law_factor_16 ⟨rfl, rfl, rfl⟩
set_option maxHeartbeats 4000000 in
set_option maxRecDepth 100000 in
theorem wx_part (l : Launch) {b : Nat} {D : va_G} {Y : Nat → ClassId} {s0 : State} (Z : jS0 b D Y s0) (hlt : l.stackTraces = false) (d rr n : Nat) (h : jH) (HD : jDesk Y h d) (x0 x1 : Int32) : jMetW l D s0 y_Law_part c_Law_part 5 (some .int) [((0 : Nat), (9 : Nat), (12 : Nat), (31 : Nat))] 7 [.ref d, .int x0, .int x1, .ref rr] h n 1 6 (fun r h2 n2 => r = some (.int 1) ∧ h = h2 ∧ n + 1 = n2) := by
  refine jMetW_of Z (by decide) (Nat.le_of_ble_eq_true rfl) ?_
  intro p e s m below meth c hnl
  obtain ⟨rest, hx⟩ := jx_tab hnl
  refine j_aload_n d_Law_part_0 3 rfl ?_
  refine j_iconst d_Law_part_1 (v := 0) (by decide) ?_
  refine j_aload_n d_Law_part_2 0 rfl ?_
  refine j_iload_n d_Law_part_3 1 rfl ?_
  refine j_iload_n d_Law_part_4 2 rfl ?_
  refine j_callVX (x_part l Z hlt d _ _ HD x0 x1) ⟨⟨Nat.le_of_ble_eq_true rfl, Nat.le_of_ble_eq_true rfl⟩, g_798, g_801, g_1, (by decide +kernel), (by decide +kernel), (show _ = some 2 from by decide +kernel)⟩ g_799 g_800 (ci := 8) rfl HD.1 ⟨(by first | exact Nat.le_of_ble_eq_true rfl | (simp only [jrm]; omega)), (by first | exact Nat.le_of_ble_eq_true rfl | (simp only [jrm]; omega))⟩ (Nat.le_of_ble_eq_true rfl) d_Law_part_5 hx (by decide) (by decide) g_774 (fun q h0 n0 P0 => ?_)
  obtain ⟨e1, e2⟩ := P0
  subst e1
  subst e2
  refine j_astore d_Law_part_12 (Nat.le_of_ble_eq_true rfl) rfl ?_
  refine j_iconst d_Law_part_14 (v := 1) (by decide) ?_
  exact j_iret rfl d_Law_part_15 ⟨rfl, rfl, rfl⟩
set_option maxHeartbeats 4000000 in
set_option maxRecDepth 100000 in
theorem wx_divisor (l : Launch) {b : Nat} {D : va_G} {Y : Nat → ClassId} {s0 : State} (Z : jS0 b D Y s0) (hlt : l.stackTraces = false) (d rr n : Nat) (h : jH) (HD : jDesk Y h d) (x0 : Int32) (h1 : ¬ x0 = 0) : jMetW l D s0 y_Law_divisor c_Law_divisor 4 (some .int) [((0 : Nat), (8 : Nat), (11 : Nat), (31 : Nat))] 7 [.ref d, .int x0, .ref rr] h n 1 6 (fun r h2 n2 => r = some (.int 1) ∧ h = h2 ∧ n + 1 = n2) := by
  refine jMetW_of Z (by decide) (Nat.le_of_ble_eq_true rfl) ?_
  intro p e s m below meth c hnl
  obtain ⟨rest, hx⟩ := jx_tab hnl
  refine j_aload_n d_Law_divisor_0 2 rfl ?_
  refine j_iconst d_Law_divisor_1 (v := 0) (by decide) ?_
  refine j_aload_n d_Law_divisor_2 0 rfl ?_
  refine j_iload_n d_Law_divisor_3 1 rfl ?_
  refine j_callVX (x_divisor l Z hlt d _ _ HD x0 h1) ⟨⟨Nat.le_of_ble_eq_true rfl, Nat.le_of_ble_eq_true rfl⟩, g_826, g_829, g_1, (by decide +kernel), (by decide +kernel), (show _ = some 1 from by decide +kernel)⟩ g_827 g_828 (ci := 8) rfl HD.1 ⟨(by first | exact Nat.le_of_ble_eq_true rfl | (simp only [jrm]; omega)), (by first | exact Nat.le_of_ble_eq_true rfl | (simp only [jrm]; omega))⟩ (Nat.le_of_ble_eq_true rfl) d_Law_divisor_4 hx (by decide) (by decide) g_774 (fun q h0 n0 P0 => ?_)
  obtain ⟨e1, e2⟩ := P0
  subst e1
  subst e2
  refine j_astore_n d_Law_divisor_11 (Nat.le_of_ble_eq_true rfl) rfl ?_
  refine j_iconst d_Law_divisor_12 (v := 1) (by decide) ?_
  exact j_iret rfl d_Law_divisor_13 ⟨rfl, rfl, rfl⟩
set_option maxHeartbeats 4000000 in
set_option maxRecDepth 100000 in
theorem wx_value (l : Launch) {b : Nat} {D : va_G} {Y : Nat → ClassId} {s0 : State} (Z : jS0 b D Y s0) (hlt : l.stackTraces = false) (d rr n : Nat) (h : jH) (HD : jDesk Y h d) (x0 : Int64) (m0 : Int32) (h1 : ¬ 1 ≤ m0) : jMetW l D s0 y_Law_value c_Law_value 6 (some .int) [((0 : Nat), (10 : Nat), (13 : Nat), (19 : Nat))] 7 [.ref d, .long x0, .int m0, .ref rr] h n 1 6 (fun r h2 n2 => r = some (.int 1) ∧ h = h2 ∧ n + 1 = n2) := by
  refine jMetW_of Z (by decide) (Nat.le_of_ble_eq_true rfl) ?_
  intro p e s m below meth c hnl
  obtain ⟨rest, hx⟩ := jx_tab hnl
  refine j_aload d_Law_value_0 3 rfl ?_
  refine j_iconst d_Law_value_2 (v := 0) (by decide) ?_
  refine j_aload_n d_Law_value_3 0 rfl ?_
  refine j_lload_n d_Law_value_4 1 rfl ?_
  refine j_iload_n d_Law_value_5 2 rfl ?_
  refine j_callVX (x_value l Z hlt d _ _ HD x0 m0 h1) ⟨⟨Nat.le_of_ble_eq_true rfl, Nat.le_of_ble_eq_true rfl⟩, g_843, g_846, g_1, (by decide +kernel), (by decide +kernel), (show _ = some 2 from by decide +kernel)⟩ g_844 g_845 (ci := 8) rfl HD.1 ⟨(by first | exact Nat.le_of_ble_eq_true rfl | (simp only [jrm]; omega)), (by first | exact Nat.le_of_ble_eq_true rfl | (simp only [jrm]; omega))⟩ (Nat.le_of_ble_eq_true rfl) d_Law_value_6 hx (by decide) (by decide) g_712 (fun q h0 n0 P0 => ?_)
  obtain ⟨e1, e2⟩ := P0
  subst e1
  subst e2
  refine j_astore d_Law_value_13 (Nat.le_of_ble_eq_true rfl) rfl ?_
  refine j_iconst d_Law_value_15 (v := 1) (by decide) ?_
  exact j_iret rfl d_Law_value_16 ⟨rfl, rfl, rfl⟩
