abbrev c_Desk_put : ByteArray := prog_1_method_2_code
abbrev y_Desk_put : MethodName := ⟨"FactorDesk", "put", "(I)I"⟩
theorem d_Desk_put_0 : decode c_Desk_put 0 = .ok (.aload_n 0, 1) := by decide +kernel
theorem d_Desk_put_1 : decode c_Desk_put 1 = .ok (.getfield 13, 3) := by decide +kernel
theorem d_Desk_put_4 : decode c_Desk_put 4 = .ok (.bipush 13, 2) := by decide +kernel
theorem d_Desk_put_6 : decode c_Desk_put 6 = .ok (.if_icmp .lt 13, 3) := by decide +kernel
theorem d_Desk_put_9 : decode c_Desk_put 9 = .ok (.new 61, 3) := by decide +kernel
theorem d_Desk_put_12 : decode c_Desk_put 12 = .ok (.dup, 1) := by decide +kernel
theorem d_Desk_put_13 : decode c_Desk_put 13 = .ok (.ldc 63, 2) := by decide +kernel
theorem d_Desk_put_15 : decode c_Desk_put 15 = .ok (.invokespecial 65, 3) := by decide +kernel
theorem d_Desk_put_18 : decode c_Desk_put 18 = .ok (.athrow, 1) := by decide +kernel
theorem d_Desk_put_19 : decode c_Desk_put 19 = .ok (.aload_n 0, 1) := by decide +kernel
theorem d_Desk_put_20 : decode c_Desk_put 20 = .ok (.getfield 9, 3) := by decide +kernel
theorem d_Desk_put_23 : decode c_Desk_put 23 = .ok (.aload_n 0, 1) := by decide +kernel
theorem d_Desk_put_24 : decode c_Desk_put 24 = .ok (.getfield 13, 3) := by decide +kernel
theorem d_Desk_put_27 : decode c_Desk_put 27 = .ok (.iload_n 1, 1) := by decide +kernel
theorem d_Desk_put_28 : decode c_Desk_put 28 = .ok (.iastore, 1) := by decide +kernel
theorem d_Desk_put_29 : decode c_Desk_put 29 = .ok (.aload_n 0, 1) := by decide +kernel
theorem d_Desk_put_30 : decode c_Desk_put 30 = .ok (.dup, 1) := by decide +kernel
theorem d_Desk_put_31 : decode c_Desk_put 31 = .ok (.getfield 13, 3) := by decide +kernel
theorem d_Desk_put_34 : decode c_Desk_put 34 = .ok (.iconst 1, 1) := by decide +kernel
theorem d_Desk_put_35 : decode c_Desk_put 35 = .ok (.iadd, 1) := by decide +kernel
theorem d_Desk_put_36 : decode c_Desk_put 36 = .ok (.putfield 13, 3) := by decide +kernel
theorem d_Desk_put_39 : decode c_Desk_put 39 = .ok (.aload_n 0, 1) := by decide +kernel
theorem d_Desk_put_40 : decode c_Desk_put 40 = .ok (.getfield 13, 3) := by decide +kernel
theorem d_Desk_put_43 : decode c_Desk_put 43 = .ok (.ireturn, 1) := by decide +kernel
abbrev c_Desk_clear : ByteArray := prog_1_method_3_code
abbrev y_Desk_clear : MethodName := ⟨"FactorDesk", "clear", "()I"⟩
theorem d_Desk_clear_0 : decode c_Desk_clear 0 = .ok (.aload_n 0, 1) := by decide +kernel
theorem d_Desk_clear_1 : decode c_Desk_clear 1 = .ok (.getfield 13, 3) := by decide +kernel
theorem d_Desk_clear_4 : decode c_Desk_clear 4 = .ok (.istore_n 1, 1) := by decide +kernel
theorem d_Desk_clear_5 : decode c_Desk_clear 5 = .ok (.aload_n 0, 1) := by decide +kernel
theorem d_Desk_clear_6 : decode c_Desk_clear 6 = .ok (.iconst 0, 1) := by decide +kernel
theorem d_Desk_clear_7 : decode c_Desk_clear 7 = .ok (.putfield 13, 3) := by decide +kernel
theorem d_Desk_clear_10 : decode c_Desk_clear 10 = .ok (.iload_n 1, 1) := by decide +kernel
theorem d_Desk_clear_11 : decode c_Desk_clear 11 = .ok (.ireturn, 1) := by decide +kernel
abbrev c_Desk_tapeTop : ByteArray := prog_1_method_18_code
abbrev y_Desk_tapeTop : MethodName := ⟨"FactorDesk", "tapeTop", "()I"⟩
theorem d_Desk_tapeTop_0 : decode c_Desk_tapeTop 0 = .ok (.aload_n 0, 1) := by decide +kernel
theorem d_Desk_tapeTop_1 : decode c_Desk_tapeTop 1 = .ok (.getfield 13, 3) := by decide +kernel
theorem d_Desk_tapeTop_4 : decode c_Desk_tapeTop 4 = .ok (.iconst 1, 1) := by decide +kernel
theorem d_Desk_tapeTop_5 : decode c_Desk_tapeTop 5 = .ok (.isub, 1) := by decide +kernel
theorem d_Desk_tapeTop_6 : decode c_Desk_tapeTop 6 = .ok (.istore_n 1, 1) := by decide +kernel
theorem d_Desk_tapeTop_7 : decode c_Desk_tapeTop 7 = .ok (.iload_n 1, 1) := by decide +kernel
theorem d_Desk_tapeTop_8 : decode c_Desk_tapeTop 8 = .ok (.ifCond .lt 18, 3) := by decide +kernel
theorem d_Desk_tapeTop_11 : decode c_Desk_tapeTop 11 = .ok (.aload_n 0, 1) := by decide +kernel
theorem d_Desk_tapeTop_12 : decode c_Desk_tapeTop 12 = .ok (.getfield 9, 3) := by decide +kernel
theorem d_Desk_tapeTop_15 : decode c_Desk_tapeTop 15 = .ok (.iload_n 1, 1) := by decide +kernel
theorem d_Desk_tapeTop_16 : decode c_Desk_tapeTop 16 = .ok (.iaload, 1) := by decide +kernel
theorem d_Desk_tapeTop_17 : decode c_Desk_tapeTop 17 = .ok (.ifCond .ne 9, 3) := by decide +kernel
theorem d_Desk_tapeTop_20 : decode c_Desk_tapeTop 20 = .ok (.iinc 1 (-1), 3) := by decide +kernel
theorem d_Desk_tapeTop_23 : decode c_Desk_tapeTop 23 = .ok (.goto (-16), 3) := by decide +kernel
theorem d_Desk_tapeTop_26 : decode c_Desk_tapeTop 26 = .ok (.iload_n 1, 1) := by decide +kernel
theorem d_Desk_tapeTop_27 : decode c_Desk_tapeTop 27 = .ok (.ireturn, 1) := by decide +kernel
abbrev c_Desk_take : ByteArray := prog_1_method_4_code
abbrev y_Desk_take : MethodName := ⟨"FactorDesk", "take", "()I"⟩
theorem d_Desk_take_0 : decode c_Desk_take 0 = .ok (.aload_n 0, 1) := by decide +kernel
theorem d_Desk_take_1 : decode c_Desk_take 1 = .ok (.invokevirtual 68, 3) := by decide +kernel
theorem d_Desk_take_4 : decode c_Desk_take 4 = .ok (.istore_n 1, 1) := by decide +kernel
theorem d_Desk_take_5 : decode c_Desk_take 5 = .ok (.iload_n 1, 1) := by decide +kernel
theorem d_Desk_take_6 : decode c_Desk_take 6 = .ok (.ifCond .ge 13, 3) := by decide +kernel
theorem d_Desk_take_9 : decode c_Desk_take 9 = .ok (.new 72, 3) := by decide +kernel
theorem d_Desk_take_12 : decode c_Desk_take 12 = .ok (.dup, 1) := by decide +kernel
theorem d_Desk_take_13 : decode c_Desk_take 13 = .ok (.ldc 74, 2) := by decide +kernel
theorem d_Desk_take_15 : decode c_Desk_take 15 = .ok (.invokespecial 76, 3) := by decide +kernel
theorem d_Desk_take_18 : decode c_Desk_take 18 = .ok (.athrow, 1) := by decide +kernel
theorem d_Desk_take_19 : decode c_Desk_take 19 = .ok (.aload_n 0, 1) := by decide +kernel
theorem d_Desk_take_20 : decode c_Desk_take 20 = .ok (.aload_n 0, 1) := by decide +kernel
theorem d_Desk_take_21 : decode c_Desk_take 21 = .ok (.getfield 20, 3) := by decide +kernel
theorem d_Desk_take_24 : decode c_Desk_take 24 = .ok (.iload_n 1, 1) := by decide +kernel
theorem d_Desk_take_25 : decode c_Desk_take 25 = .ok (.invokevirtual 77, 3) := by decide +kernel
theorem d_Desk_take_28 : decode c_Desk_take 28 = .ok (.aload_n 0, 1) := by decide +kernel
theorem d_Desk_take_29 : decode c_Desk_take 29 = .ok (.getfield 47, 3) := by decide +kernel
theorem d_Desk_take_32 : decode c_Desk_take 32 = .ok (.invokevirtual 81, 3) := by decide +kernel
theorem d_Desk_take_35 : decode c_Desk_take 35 = .ok (.aload_n 0, 1) := by decide +kernel
theorem d_Desk_take_36 : decode c_Desk_take 36 = .ok (.getfield 20, 3) := by decide +kernel
theorem d_Desk_take_39 : decode c_Desk_take 39 = .ok (.getfield 84, 3) := by decide +kernel
theorem d_Desk_take_42 : decode c_Desk_take 42 = .ok (.ireturn, 1) := by decide +kernel
abbrev c_Desk_times : ByteArray := prog_1_method_5_code
abbrev y_Desk_times : MethodName := ⟨"FactorDesk", "times", "()I"⟩
theorem d_Desk_times_0 : decode c_Desk_times 0 = .ok (.aload_n 0, 1) := by decide +kernel
theorem d_Desk_times_1 : decode c_Desk_times 1 = .ok (.invokevirtual 68, 3) := by decide +kernel
theorem d_Desk_times_4 : decode c_Desk_times 4 = .ok (.istore_n 1, 1) := by decide +kernel
theorem d_Desk_times_5 : decode c_Desk_times 5 = .ok (.iload_n 1, 1) := by decide +kernel
theorem d_Desk_times_6 : decode c_Desk_times 6 = .ok (.ifCond .ge 13, 3) := by decide +kernel
theorem d_Desk_times_9 : decode c_Desk_times 9 = .ok (.new 72, 3) := by decide +kernel
theorem d_Desk_times_12 : decode c_Desk_times 12 = .ok (.dup, 1) := by decide +kernel
theorem d_Desk_times_13 : decode c_Desk_times 13 = .ok (.ldc 74, 2) := by decide +kernel
theorem d_Desk_times_15 : decode c_Desk_times 15 = .ok (.invokespecial 76, 3) := by decide +kernel
theorem d_Desk_times_18 : decode c_Desk_times 18 = .ok (.athrow, 1) := by decide +kernel
theorem d_Desk_times_19 : decode c_Desk_times 19 = .ok (.iload_n 1, 1) := by decide +kernel
theorem d_Desk_times_20 : decode c_Desk_times 20 = .ok (.aload_n 0, 1) := by decide +kernel
theorem d_Desk_times_21 : decode c_Desk_times 21 = .ok (.getfield 20, 3) := by decide +kernel
theorem d_Desk_times_24 : decode c_Desk_times 24 = .ok (.getfield 84, 3) := by decide +kernel
theorem d_Desk_times_27 : decode c_Desk_times 27 = .ok (.iadd, 1) := by decide +kernel
theorem d_Desk_times_28 : decode c_Desk_times 28 = .ok (.bipush 12, 2) := by decide +kernel
theorem d_Desk_times_30 : decode c_Desk_times 30 = .ok (.if_icmp .le 13, 3) := by decide +kernel
theorem d_Desk_times_33 : decode c_Desk_times 33 = .ok (.new 61, 3) := by decide +kernel
theorem d_Desk_times_36 : decode c_Desk_times 36 = .ok (.dup, 1) := by decide +kernel
theorem d_Desk_times_37 : decode c_Desk_times 37 = .ok (.ldc 87, 2) := by decide +kernel
theorem d_Desk_times_39 : decode c_Desk_times 39 = .ok (.invokespecial 65, 3) := by decide +kernel
theorem d_Desk_times_42 : decode c_Desk_times 42 = .ok (.athrow, 1) := by decide +kernel
theorem d_Desk_times_43 : decode c_Desk_times 43 = .ok (.aload_n 0, 1) := by decide +kernel
theorem d_Desk_times_44 : decode c_Desk_times 44 = .ok (.iload_n 1, 1) := by decide +kernel
theorem d_Desk_times_45 : decode c_Desk_times 45 = .ok (.invokevirtual 89, 3) := by decide +kernel
theorem d_Desk_times_48 : decode c_Desk_times 48 = .ok (.ifCond .ne 13, 3) := by decide +kernel
theorem d_Desk_times_51 : decode c_Desk_times 51 = .ok (.new 61, 3) := by decide +kernel
theorem d_Desk_times_54 : decode c_Desk_times 54 = .ok (.dup, 1) := by decide +kernel
theorem d_Desk_times_55 : decode c_Desk_times 55 = .ok (.ldc 93, 2) := by decide +kernel
theorem d_Desk_times_57 : decode c_Desk_times 57 = .ok (.invokespecial 65, 3) := by decide +kernel
theorem d_Desk_times_60 : decode c_Desk_times 60 = .ok (.athrow, 1) := by decide +kernel
theorem d_Desk_times_61 : decode c_Desk_times 61 = .ok (.aload_n 0, 1) := by decide +kernel
theorem d_Desk_times_62 : decode c_Desk_times 62 = .ok (.getfield 20, 3) := by decide +kernel
theorem d_Desk_times_65 : decode c_Desk_times 65 = .ok (.aload_n 0, 1) := by decide +kernel
theorem d_Desk_times_66 : decode c_Desk_times 66 = .ok (.getfield 28, 3) := by decide +kernel
theorem d_Desk_times_69 : decode c_Desk_times 69 = .ok (.invokevirtual 95, 3) := by decide +kernel
theorem d_Desk_times_72 : decode c_Desk_times 72 = .ok (.aload_n 0, 1) := by decide +kernel
theorem d_Desk_times_73 : decode c_Desk_times 73 = .ok (.iconst 0, 1) := by decide +kernel
theorem d_Desk_times_74 : decode c_Desk_times 74 = .ok (.putfield 13, 3) := by decide +kernel
theorem d_Desk_times_77 : decode c_Desk_times 77 = .ok (.aload_n 0, 1) := by decide +kernel
theorem d_Desk_times_78 : decode c_Desk_times 78 = .ok (.getfield 47, 3) := by decide +kernel
theorem d_Desk_times_81 : decode c_Desk_times 81 = .ok (.invokevirtual 81, 3) := by decide +kernel
theorem d_Desk_times_84 : decode c_Desk_times 84 = .ok (.aload_n 0, 1) := by decide +kernel
theorem d_Desk_times_85 : decode c_Desk_times 85 = .ok (.getfield 20, 3) := by decide +kernel
theorem d_Desk_times_88 : decode c_Desk_times 88 = .ok (.getfield 84, 3) := by decide +kernel
theorem d_Desk_times_91 : decode c_Desk_times 91 = .ok (.ireturn, 1) := by decide +kernel
abbrev c_Desk_common : ByteArray := prog_1_method_14_code
abbrev y_Desk_common : MethodName := ⟨"FactorDesk", "common", "()I"⟩
theorem d_Desk_common_0 : decode c_Desk_common 0 = .ok (.aload_n 0, 1) := by decide +kernel
theorem d_Desk_common_1 : decode c_Desk_common 1 = .ok (.invokevirtual 68, 3) := by decide +kernel
theorem d_Desk_common_4 : decode c_Desk_common 4 = .ok (.istore_n 1, 1) := by decide +kernel
theorem d_Desk_common_5 : decode c_Desk_common 5 = .ok (.iload_n 1, 1) := by decide +kernel
theorem d_Desk_common_6 : decode c_Desk_common 6 = .ok (.ifCond .ge 13, 3) := by decide +kernel
theorem d_Desk_common_9 : decode c_Desk_common 9 = .ok (.new 72, 3) := by decide +kernel
theorem d_Desk_common_12 : decode c_Desk_common 12 = .ok (.dup, 1) := by decide +kernel
theorem d_Desk_common_13 : decode c_Desk_common 13 = .ok (.ldc 74, 2) := by decide +kernel
theorem d_Desk_common_15 : decode c_Desk_common 15 = .ok (.invokespecial 76, 3) := by decide +kernel
theorem d_Desk_common_18 : decode c_Desk_common 18 = .ok (.athrow, 1) := by decide +kernel
theorem d_Desk_common_19 : decode c_Desk_common 19 = .ok (.aload_n 0, 1) := by decide +kernel
theorem d_Desk_common_20 : decode c_Desk_common 20 = .ok (.aload_n 0, 1) := by decide +kernel
theorem d_Desk_common_21 : decode c_Desk_common 21 = .ok (.getfield 31, 3) := by decide +kernel
theorem d_Desk_common_24 : decode c_Desk_common 24 = .ok (.iload_n 1, 1) := by decide +kernel
theorem d_Desk_common_25 : decode c_Desk_common 25 = .ok (.invokevirtual 77, 3) := by decide +kernel
theorem d_Desk_common_28 : decode c_Desk_common 28 = .ok (.aload_n 0, 1) := by decide +kernel
theorem d_Desk_common_29 : decode c_Desk_common 29 = .ok (.getfield 55, 3) := by decide +kernel
theorem d_Desk_common_32 : decode c_Desk_common 32 = .ok (.aload_n 0, 1) := by decide +kernel
theorem d_Desk_common_33 : decode c_Desk_common 33 = .ok (.getfield 20, 3) := by decide +kernel
theorem d_Desk_common_36 : decode c_Desk_common 36 = .ok (.aload_n 0, 1) := by decide +kernel
theorem d_Desk_common_37 : decode c_Desk_common 37 = .ok (.getfield 31, 3) := by decide +kernel
theorem d_Desk_common_40 : decode c_Desk_common 40 = .ok (.invokevirtual 147, 3) := by decide +kernel
theorem d_Desk_common_43 : decode c_Desk_common 43 = .ok (.aload_n 0, 1) := by decide +kernel
theorem d_Desk_common_44 : decode c_Desk_common 44 = .ok (.getfield 34, 3) := by decide +kernel
theorem d_Desk_common_47 : decode c_Desk_common 47 = .ok (.aload_n 0, 1) := by decide +kernel
theorem d_Desk_common_48 : decode c_Desk_common 48 = .ok (.getfield 55, 3) := by decide +kernel
theorem d_Desk_common_51 : decode c_Desk_common 51 = .ok (.getfield 153, 3) := by decide +kernel
theorem d_Desk_common_54 : decode c_Desk_common 54 = .ok (.invokevirtual 95, 3) := by decide +kernel
theorem d_Desk_common_57 : decode c_Desk_common 57 = .ok (.aload_n 0, 1) := by decide +kernel
theorem d_Desk_common_58 : decode c_Desk_common 58 = .ok (.getfield 34, 3) := by decide +kernel
theorem d_Desk_common_61 : decode c_Desk_common 61 = .ok (.getfield 84, 3) := by decide +kernel
theorem d_Desk_common_64 : decode c_Desk_common 64 = .ok (.ireturn, 1) := by decide +kernel
abbrev c_Desk_divides : ByteArray := prog_1_method_16_code
abbrev y_Desk_divides : MethodName := ⟨"FactorDesk", "divides", "()Z"⟩
theorem d_Desk_divides_0 : decode c_Desk_divides 0 = .ok (.aload_n 0, 1) := by decide +kernel
theorem d_Desk_divides_1 : decode c_Desk_divides 1 = .ok (.invokevirtual 68, 3) := by decide +kernel
theorem d_Desk_divides_4 : decode c_Desk_divides 4 = .ok (.istore_n 1, 1) := by decide +kernel
theorem d_Desk_divides_5 : decode c_Desk_divides 5 = .ok (.iload_n 1, 1) := by decide +kernel
theorem d_Desk_divides_6 : decode c_Desk_divides 6 = .ok (.ifCond .ge 13, 3) := by decide +kernel
theorem d_Desk_divides_9 : decode c_Desk_divides 9 = .ok (.new 72, 3) := by decide +kernel
theorem d_Desk_divides_12 : decode c_Desk_divides 12 = .ok (.dup, 1) := by decide +kernel
theorem d_Desk_divides_13 : decode c_Desk_divides 13 = .ok (.ldc 74, 2) := by decide +kernel
theorem d_Desk_divides_15 : decode c_Desk_divides 15 = .ok (.invokespecial 76, 3) := by decide +kernel
theorem d_Desk_divides_18 : decode c_Desk_divides 18 = .ok (.athrow, 1) := by decide +kernel
theorem d_Desk_divides_19 : decode c_Desk_divides 19 = .ok (.aload_n 0, 1) := by decide +kernel
theorem d_Desk_divides_20 : decode c_Desk_divides 20 = .ok (.aload_n 0, 1) := by decide +kernel
theorem d_Desk_divides_21 : decode c_Desk_divides 21 = .ok (.getfield 31, 3) := by decide +kernel
theorem d_Desk_divides_24 : decode c_Desk_divides 24 = .ok (.iload_n 1, 1) := by decide +kernel
theorem d_Desk_divides_25 : decode c_Desk_divides 25 = .ok (.invokevirtual 77, 3) := by decide +kernel
theorem d_Desk_divides_28 : decode c_Desk_divides 28 = .ok (.aload_n 0, 1) := by decide +kernel
theorem d_Desk_divides_29 : decode c_Desk_divides 29 = .ok (.getfield 31, 3) := by decide +kernel
theorem d_Desk_divides_32 : decode c_Desk_divides 32 = .ok (.invokevirtual 158, 3) := by decide +kernel
theorem d_Desk_divides_35 : decode c_Desk_divides 35 = .ok (.aload_n 0, 1) := by decide +kernel
theorem d_Desk_divides_36 : decode c_Desk_divides 36 = .ok (.getfield 60, 3) := by decide +kernel
theorem d_Desk_divides_39 : decode c_Desk_divides 39 = .ok (.aload_n 0, 1) := by decide +kernel
theorem d_Desk_divides_40 : decode c_Desk_divides 40 = .ok (.getfield 20, 3) := by decide +kernel
theorem d_Desk_divides_43 : decode c_Desk_divides 43 = .ok (.aload_n 0, 1) := by decide +kernel
theorem d_Desk_divides_44 : decode c_Desk_divides 44 = .ok (.getfield 31, 3) := by decide +kernel
theorem d_Desk_divides_47 : decode c_Desk_divides 47 = .ok (.invokevirtual 161, 3) := by decide +kernel
theorem d_Desk_divides_50 : decode c_Desk_divides 50 = .ok (.ireturn, 1) := by decide +kernel
abbrev c_Desk_degree : ByteArray := prog_1_method_7_code
abbrev y_Desk_degree : MethodName := ⟨"FactorDesk", "degree", "()I"⟩
theorem d_Desk_degree_0 : decode c_Desk_degree 0 = .ok (.aload_n 0, 1) := by decide +kernel
theorem d_Desk_degree_1 : decode c_Desk_degree 1 = .ok (.getfield 20, 3) := by decide +kernel
theorem d_Desk_degree_4 : decode c_Desk_degree 4 = .ok (.getfield 84, 3) := by decide +kernel
theorem d_Desk_degree_7 : decode c_Desk_degree 7 = .ok (.ireturn, 1) := by decide +kernel
abbrev c_Desk_content : ByteArray := prog_1_method_8_code
abbrev y_Desk_content : MethodName := ⟨"FactorDesk", "content", "()J"⟩
theorem d_Desk_content_0 : decode c_Desk_content 0 = .ok (.aload_n 0, 1) := by decide +kernel
theorem d_Desk_content_1 : decode c_Desk_content 1 = .ok (.getfield 20, 3) := by decide +kernel
theorem d_Desk_content_4 : decode c_Desk_content 4 = .ok (.invokevirtual 105, 3) := by decide +kernel
theorem d_Desk_content_7 : decode c_Desk_content 7 = .ok (.lstore_n 1, 1) := by decide +kernel
theorem d_Desk_content_8 : decode c_Desk_content 8 = .ok (.aload_n 0, 1) := by decide +kernel
theorem d_Desk_content_9 : decode c_Desk_content 9 = .ok (.getfield 20, 3) := by decide +kernel
theorem d_Desk_content_12 : decode c_Desk_content 12 = .ok (.invokevirtual 109, 3) := by decide +kernel
theorem d_Desk_content_15 : decode c_Desk_content 15 = .ok (.lconst 0, 1) := by decide +kernel
theorem d_Desk_content_16 : decode c_Desk_content 16 = .ok (.lcmp, 1) := by decide +kernel
theorem d_Desk_content_17 : decode c_Desk_content 17 = .ok (.ifCond .ge 8, 3) := by decide +kernel
theorem d_Desk_content_20 : decode c_Desk_content 20 = .ok (.lload_n 1, 1) := by decide +kernel
theorem d_Desk_content_21 : decode c_Desk_content 21 = .ok (.lneg, 1) := by decide +kernel
theorem d_Desk_content_22 : decode c_Desk_content 22 = .ok (.goto 4, 3) := by decide +kernel
theorem d_Desk_content_25 : decode c_Desk_content 25 = .ok (.lload_n 1, 1) := by decide +kernel
theorem d_Desk_content_26 : decode c_Desk_content 26 = .ok (.lreturn, 1) := by decide +kernel
abbrev c_Desk_at : ByteArray := prog_1_method_6_code
abbrev y_Desk_at : MethodName := ⟨"FactorDesk", "at", "(I)I"⟩
theorem d_Desk_at_0 : decode c_Desk_at 0 = .ok (.iload_n 1, 1) := by decide +kernel
theorem d_Desk_at_1 : decode c_Desk_at 1 = .ok (.ifCond .lt 9, 3) := by decide +kernel
theorem d_Desk_at_4 : decode c_Desk_at 4 = .ok (.iload_n 1, 1) := by decide +kernel
theorem d_Desk_at_5 : decode c_Desk_at 5 = .ok (.bipush 12, 2) := by decide +kernel
theorem d_Desk_at_7 : decode c_Desk_at 7 = .ok (.if_icmp .le 13, 3) := by decide +kernel
theorem d_Desk_at_10 : decode c_Desk_at 10 = .ok (.new 72, 3) := by decide +kernel
theorem d_Desk_at_13 : decode c_Desk_at 13 = .ok (.dup, 1) := by decide +kernel
theorem d_Desk_at_14 : decode c_Desk_at 14 = .ok (.ldc 99, 2) := by decide +kernel
theorem d_Desk_at_16 : decode c_Desk_at 16 = .ok (.invokespecial 76, 3) := by decide +kernel
theorem d_Desk_at_19 : decode c_Desk_at 19 = .ok (.athrow, 1) := by decide +kernel
theorem d_Desk_at_20 : decode c_Desk_at 20 = .ok (.aload_n 0, 1) := by decide +kernel
theorem d_Desk_at_21 : decode c_Desk_at 21 = .ok (.getfield 20, 3) := by decide +kernel
theorem d_Desk_at_24 : decode c_Desk_at 24 = .ok (.getfield 101, 3) := by decide +kernel
theorem d_Desk_at_27 : decode c_Desk_at 27 = .ok (.iload_n 1, 1) := by decide +kernel
theorem d_Desk_at_28 : decode c_Desk_at 28 = .ok (.laload, 1) := by decide +kernel
theorem d_Desk_at_29 : decode c_Desk_at 29 = .ok (.l2i, 1) := by decide +kernel
theorem d_Desk_at_30 : decode c_Desk_at 30 = .ok (.ireturn, 1) := by decide +kernel
abbrev c_Desk_factor : ByteArray := prog_1_method_10_code
abbrev y_Desk_factor : MethodName := ⟨"FactorDesk", "factor", "(II)I"⟩
theorem d_Desk_factor_0 : decode c_Desk_factor 0 = .ok (.iload_n 1, 1) := by decide +kernel
theorem d_Desk_factor_1 : decode c_Desk_factor 1 = .ok (.ifCond .lt 23, 3) := by decide +kernel
theorem d_Desk_factor_4 : decode c_Desk_factor 4 = .ok (.iload_n 1, 1) := by decide +kernel
theorem d_Desk_factor_5 : decode c_Desk_factor 5 = .ok (.aload_n 0, 1) := by decide +kernel
theorem d_Desk_factor_6 : decode c_Desk_factor 6 = .ok (.getfield 40, 3) := by decide +kernel
theorem d_Desk_factor_9 : decode c_Desk_factor 9 = .ok (.getfield 121, 3) := by decide +kernel
theorem d_Desk_factor_12 : decode c_Desk_factor 12 = .ok (.if_icmp .ge 12, 3) := by decide +kernel
theorem d_Desk_factor_15 : decode c_Desk_factor 15 = .ok (.iload_n 2, 1) := by decide +kernel
theorem d_Desk_factor_16 : decode c_Desk_factor 16 = .ok (.ifCond .lt 8, 3) := by decide +kernel
theorem d_Desk_factor_19 : decode c_Desk_factor 19 = .ok (.iload_n 2, 1) := by decide +kernel
theorem d_Desk_factor_20 : decode c_Desk_factor 20 = .ok (.iconst 1, 1) := by decide +kernel
theorem d_Desk_factor_21 : decode c_Desk_factor 21 = .ok (.if_icmp .le 13, 3) := by decide +kernel
theorem d_Desk_factor_24 : decode c_Desk_factor 24 = .ok (.new 124, 3) := by decide +kernel
theorem d_Desk_factor_27 : decode c_Desk_factor 27 = .ok (.dup, 1) := by decide +kernel
theorem d_Desk_factor_28 : decode c_Desk_factor 28 = .ok (.ldc 126, 2) := by decide +kernel
theorem d_Desk_factor_30 : decode c_Desk_factor 30 = .ok (.invokespecial 128, 3) := by decide +kernel
theorem d_Desk_factor_33 : decode c_Desk_factor 33 = .ok (.athrow, 1) := by decide +kernel
theorem d_Desk_factor_34 : decode c_Desk_factor 34 = .ok (.iload_n 2, 1) := by decide +kernel
theorem d_Desk_factor_35 : decode c_Desk_factor 35 = .ok (.ifCond .ne 18, 3) := by decide +kernel
theorem d_Desk_factor_38 : decode c_Desk_factor 38 = .ok (.aload_n 0, 1) := by decide +kernel
theorem d_Desk_factor_39 : decode c_Desk_factor 39 = .ok (.getfield 40, 3) := by decide +kernel
theorem d_Desk_factor_42 : decode c_Desk_factor 42 = .ok (.getfield 129, 3) := by decide +kernel
theorem d_Desk_factor_45 : decode c_Desk_factor 45 = .ok (.iload_n 1, 1) := by decide +kernel
theorem d_Desk_factor_46 : decode c_Desk_factor 46 = .ok (.aaload, 1) := by decide +kernel
theorem d_Desk_factor_47 : decode c_Desk_factor 47 = .ok (.getfield 84, 3) := by decide +kernel
theorem d_Desk_factor_50 : decode c_Desk_factor 50 = .ok (.goto 12, 3) := by decide +kernel
theorem d_Desk_factor_53 : decode c_Desk_factor 53 = .ok (.aload_n 0, 1) := by decide +kernel
theorem d_Desk_factor_54 : decode c_Desk_factor 54 = .ok (.getfield 40, 3) := by decide +kernel
theorem d_Desk_factor_57 : decode c_Desk_factor 57 = .ok (.getfield 133, 3) := by decide +kernel
theorem d_Desk_factor_60 : decode c_Desk_factor 60 = .ok (.iload_n 1, 1) := by decide +kernel
theorem d_Desk_factor_61 : decode c_Desk_factor 61 = .ok (.iaload, 1) := by decide +kernel
theorem d_Desk_factor_62 : decode c_Desk_factor 62 = .ok (.ireturn, 1) := by decide +kernel
abbrev c_Desk_part : ByteArray := prog_1_method_11_code
abbrev y_Desk_part : MethodName := ⟨"FactorDesk", "part", "(II)J"⟩
theorem d_Desk_part_0 : decode c_Desk_part 0 = .ok (.iload_n 1, 1) := by decide +kernel
theorem d_Desk_part_1 : decode c_Desk_part 1 = .ok (.ifCond .lt 34, 3) := by decide +kernel
theorem d_Desk_part_4 : decode c_Desk_part 4 = .ok (.iload_n 1, 1) := by decide +kernel
theorem d_Desk_part_5 : decode c_Desk_part 5 = .ok (.aload_n 0, 1) := by decide +kernel
theorem d_Desk_part_6 : decode c_Desk_part 6 = .ok (.getfield 40, 3) := by decide +kernel
theorem d_Desk_part_9 : decode c_Desk_part 9 = .ok (.getfield 121, 3) := by decide +kernel
theorem d_Desk_part_12 : decode c_Desk_part 12 = .ok (.if_icmp .ge 23, 3) := by decide +kernel
theorem d_Desk_part_15 : decode c_Desk_part 15 = .ok (.iload_n 2, 1) := by decide +kernel
theorem d_Desk_part_16 : decode c_Desk_part 16 = .ok (.ifCond .lt 19, 3) := by decide +kernel
theorem d_Desk_part_19 : decode c_Desk_part 19 = .ok (.iload_n 2, 1) := by decide +kernel
theorem d_Desk_part_20 : decode c_Desk_part 20 = .ok (.aload_n 0, 1) := by decide +kernel
theorem d_Desk_part_21 : decode c_Desk_part 21 = .ok (.getfield 40, 3) := by decide +kernel
theorem d_Desk_part_24 : decode c_Desk_part 24 = .ok (.getfield 129, 3) := by decide +kernel
theorem d_Desk_part_27 : decode c_Desk_part 27 = .ok (.iload_n 1, 1) := by decide +kernel
theorem d_Desk_part_28 : decode c_Desk_part 28 = .ok (.aaload, 1) := by decide +kernel
theorem d_Desk_part_29 : decode c_Desk_part 29 = .ok (.getfield 84, 3) := by decide +kernel
theorem d_Desk_part_32 : decode c_Desk_part 32 = .ok (.if_icmp .le 13, 3) := by decide +kernel
theorem d_Desk_part_35 : decode c_Desk_part 35 = .ok (.new 124, 3) := by decide +kernel
theorem d_Desk_part_38 : decode c_Desk_part 38 = .ok (.dup, 1) := by decide +kernel
theorem d_Desk_part_39 : decode c_Desk_part 39 = .ok (.ldc 136, 2) := by decide +kernel
theorem d_Desk_part_41 : decode c_Desk_part 41 = .ok (.invokespecial 128, 3) := by decide +kernel
theorem d_Desk_part_44 : decode c_Desk_part 44 = .ok (.athrow, 1) := by decide +kernel
theorem d_Desk_part_45 : decode c_Desk_part 45 = .ok (.aload_n 0, 1) := by decide +kernel
theorem d_Desk_part_46 : decode c_Desk_part 46 = .ok (.getfield 40, 3) := by decide +kernel
theorem d_Desk_part_49 : decode c_Desk_part 49 = .ok (.getfield 129, 3) := by decide +kernel
theorem d_Desk_part_52 : decode c_Desk_part 52 = .ok (.iload_n 1, 1) := by decide +kernel
theorem d_Desk_part_53 : decode c_Desk_part 53 = .ok (.aaload, 1) := by decide +kernel
theorem d_Desk_part_54 : decode c_Desk_part 54 = .ok (.getfield 101, 3) := by decide +kernel
theorem d_Desk_part_57 : decode c_Desk_part 57 = .ok (.iload_n 2, 1) := by decide +kernel
theorem d_Desk_part_58 : decode c_Desk_part 58 = .ok (.laload, 1) := by decide +kernel
theorem d_Desk_part_59 : decode c_Desk_part 59 = .ok (.lreturn, 1) := by decide +kernel
abbrev c_Desk_divisor : ByteArray := prog_1_method_15_code
abbrev y_Desk_divisor : MethodName := ⟨"FactorDesk", "divisor", "(I)J"⟩
theorem d_Desk_divisor_0 : decode c_Desk_divisor 0 = .ok (.iload_n 1, 1) := by decide +kernel
theorem d_Desk_divisor_1 : decode c_Desk_divisor 1 = .ok (.ifCond .lt 14, 3) := by decide +kernel
theorem d_Desk_divisor_4 : decode c_Desk_divisor 4 = .ok (.iload_n 1, 1) := by decide +kernel
theorem d_Desk_divisor_5 : decode c_Desk_divisor 5 = .ok (.aload_n 0, 1) := by decide +kernel
theorem d_Desk_divisor_6 : decode c_Desk_divisor 6 = .ok (.getfield 34, 3) := by decide +kernel
theorem d_Desk_divisor_9 : decode c_Desk_divisor 9 = .ok (.getfield 84, 3) := by decide +kernel
theorem d_Desk_divisor_12 : decode c_Desk_divisor 12 = .ok (.if_icmp .le 13, 3) := by decide +kernel
theorem d_Desk_divisor_15 : decode c_Desk_divisor 15 = .ok (.new 124, 3) := by decide +kernel
theorem d_Desk_divisor_18 : decode c_Desk_divisor 18 = .ok (.dup, 1) := by decide +kernel
theorem d_Desk_divisor_19 : decode c_Desk_divisor 19 = .ok (.ldc 156, 2) := by decide +kernel
theorem d_Desk_divisor_21 : decode c_Desk_divisor 21 = .ok (.invokespecial 128, 3) := by decide +kernel
theorem d_Desk_divisor_24 : decode c_Desk_divisor 24 = .ok (.athrow, 1) := by decide +kernel
theorem d_Desk_divisor_25 : decode c_Desk_divisor 25 = .ok (.aload_n 0, 1) := by decide +kernel
theorem d_Desk_divisor_26 : decode c_Desk_divisor 26 = .ok (.getfield 34, 3) := by decide +kernel
theorem d_Desk_divisor_29 : decode c_Desk_divisor 29 = .ok (.getfield 101, 3) := by decide +kernel
theorem d_Desk_divisor_32 : decode c_Desk_divisor 32 = .ok (.iload_n 1, 1) := by decide +kernel
theorem d_Desk_divisor_33 : decode c_Desk_divisor 33 = .ok (.laload, 1) := by decide +kernel
theorem d_Desk_divisor_34 : decode c_Desk_divisor 34 = .ok (.lreturn, 1) := by decide +kernel
theorem g_717 : jG (Jvm.Cond.methodLink "FactorDesk" (68 : Nat) ({ cls := "FactorDesk", name := "tapeTop", desc := "()I" } : Jvm.MethodName)) := jG_of 782 (by decide +kernel) (by decide +kernel)
theorem g_720 : jG (Jvm.Cond.code ({ cls := "FactorDesk", name := "tapeTop", desc := "()I" } : Jvm.MethodName) prog_1_method_18_code (2 : Nat) (Option.some Jvm.ClassFile.FieldType.int)) := jG_of 785 (by decide +kernel) (by decide +kernel)
theorem g_719 : jG (Jvm.Cond.instanceMethod ({ cls := "FactorDesk", name := "tapeTop", desc := "()I" } : Jvm.MethodName)) := jG_of 784 (by decide +kernel) (by decide +kernel)
theorem gp_20 : jG (Jvm.Cond.selects "FactorDesk" ({ cls := "FactorDesk", name := "tapeTop", desc := "()I" } : Jvm.MethodName) ({ cls := "FactorDesk", name := "tapeTop", desc := "()I" } : Jvm.MethodName)) := jG_of 20 (by decide +kernel) (by decide +kernel)
theorem g_721 : jG (Jvm.Cond.classLink "FactorDesk" (72 : Nat) "java/lang/IllegalArgumentException") := jG_of 786 (by decide +kernel) (by decide +kernel)
theorem g_722 : jG (Jvm.Cond.instantiable "java/lang/IllegalArgumentException" (6 : Nat)) := jG_of 787 (by decide +kernel) (by decide +kernel)
theorem g_15 : jG (Jvm.Cond.initialized "java/lang/IllegalArgumentException") := jG_of 80 (by decide +kernel) (by decide +kernel)
theorem g_48 : jG (Jvm.Cond.fieldLink "FactorDesk" (84 : Nat) "FactorDesk$Poly" "degree" "I") := jG_of 113 (by decide +kernel) (by decide +kernel)
theorem g_347 : jG (Jvm.Cond.methodLink "FactorDesk" (105 : Nat) ({ cls := "FactorDesk$Poly", name := "greatestNumber", desc := "()J" } : Jvm.MethodName)) := jG_of 412 (by decide +kernel) (by decide +kernel)
theorem g_354 : jG (Jvm.Cond.methodLink "FactorDesk" (109 : Nat) ({ cls := "FactorDesk$Poly", name := "leading", desc := "()J" } : Jvm.MethodName)) := jG_of 419 (by decide +kernel) (by decide +kernel)
theorem g_39 : jG (Jvm.Cond.fieldLink "FactorDesk" (101 : Nat) "FactorDesk$Poly" "c" "[J") := jG_of 104 (by decide +kernel) (by decide +kernel)
theorem g_779 : jG (Jvm.Cond.classLink "FactorDesk" (124 : Nat) "java/util/NoSuchElementException") := jG_of 844 (by decide +kernel) (by decide +kernel)
theorem g_780 : jG (Jvm.Cond.instantiable "java/util/NoSuchElementException" (6 : Nat)) := jG_of 845 (by decide +kernel) (by decide +kernel)
theorem g_18 : jG (Jvm.Cond.initialized "java/util/NoSuchElementException") := jG_of 83 (by decide +kernel) (by decide +kernel)
theorem g_78 : jG (Jvm.Cond.fieldLink "FactorDesk" (121 : Nat) "FactorDesk$FactorList" "count" "I") := jG_of 143 (by decide +kernel) (by decide +kernel)
abbrev jNm : List String := ["java/lang/RuntimeException", "java/lang/Exception"]
theorem hat_IAE : ∀ w ∈ Bundle.ownAtoms "FactorDesk" 76 "java/lang/IllegalArgumentException" jNm, jG w ∨ w ∈ jBad "java/lang/IllegalArgumentException" jNm := by unfold jG; decide +kernel
theorem hat_NSE : ∀ w ∈ jOwnX "FactorDesk" 128 "java/util/NoSuchElementException" 13 prog_20_method_4_code "java/lang/RuntimeException" ["java/lang/Exception"], jG w ∨ w ∈ jBad "java/util/NoSuchElementException" jNm := by unfold jG; decide +kernel
theorem hca_IAE : Cond.castable "java/lang/IllegalArgumentException" "java/lang/IllegalArgumentException" ∈ lw_tbl := by decide +kernel
theorem hdc_IAE : ∀ n ∈ jNm ++ [Bundle.tN], Cond.declares (Bundle.initS n) ∈ lw_tbl := by decide +kernel
theorem hca_NSE : Cond.castable "java/util/NoSuchElementException" "java/util/NoSuchElementException" ∈ lw_tbl := by decide +kernel
theorem hdc_NSE : ∀ n ∈ jNm ++ [Bundle.tN], Cond.declares (Bundle.initS n) ∈ lw_tbl := by decide +kernel
theorem dn_0 : decode prog_20_method_4_code 0 = .ok (.aload_n 0, 1) := by decide +kernel
theorem dn_1 : decode prog_20_method_4_code 1 = .ok (.aload_n 1, 1) := by decide +kernel
theorem dn_2 : decode prog_20_method_4_code 2 = .ok (.invokespecial 13, 3) := by decide +kernel
theorem dn_5 : decode prog_20_method_4_code 5 = .ok (.return_, 1) := by decide +kernel
theorem jNm_fit : ∀ n ∈ jNm, Bundle.fit n = true := by decide +kernel
theorem hsr_74 : Cond.stringRef "FactorDesk" 74 "the tape holds no polynomial" ∈ lw_tbl := by decide +kernel
theorem hsx_74 : Cond.exactly (.string "FactorDesk" 74) "java/lang/String" ∈ flatC (Jvm.Cond.and given_1 narrow_1) := by decide +kernel
theorem hsr_99 : Cond.stringRef "FactorDesk" 99 "there is no such coefficient" ∈ lw_tbl := by decide +kernel
theorem hsx_99 : Cond.exactly (.string "FactorDesk" 99) "java/lang/String" ∈ flatC (Jvm.Cond.and given_1 narrow_1) := by decide +kernel
theorem hsr_126 : Cond.stringRef "FactorDesk" 126 "there is no such factor, or nothing of that kind to tell" ∈ lw_tbl := by decide +kernel
theorem hsx_126 : Cond.exactly (.string "FactorDesk" 126) "java/lang/String" ∈ flatC (Jvm.Cond.and given_1 narrow_1) := by decide +kernel
theorem hsr_136 : Cond.stringRef "FactorDesk" 136 "there is no such factor or coefficient" ∈ lw_tbl := by decide +kernel
theorem hsx_136 : Cond.exactly (.string "FactorDesk" 136) "java/lang/String" ∈ flatC (Jvm.Cond.and given_1 narrow_1) := by decide +kernel
theorem hsr_141 : Cond.stringRef "FactorDesk" 141 "no factor has such a degree" ∈ lw_tbl := by decide +kernel
theorem hsx_141 : Cond.exactly (.string "FactorDesk" 141) "java/lang/String" ∈ flatC (Jvm.Cond.and given_1 narrow_1) := by decide +kernel
theorem hsr_156 : Cond.stringRef "FactorDesk" 156 "the divisor has no such coefficient" ∈ lw_tbl := by decide +kernel
theorem hsx_156 : Cond.exactly (.string "FactorDesk" 156) "java/lang/String" ∈ flatC (Jvm.Cond.and given_1 narrow_1) := by decide +kernel
theorem hsr_167 : Cond.stringRef "FactorDesk" 167 "the modulus is below 1" ∈ lw_tbl := by decide +kernel
theorem hsx_167 : Cond.exactly (.string "FactorDesk" 167) "java/lang/String" ∈ flatC (Jvm.Cond.and given_1 narrow_1) := by decide +kernel
set_option maxHeartbeats 4000000 in
set_option maxRecDepth 100000 in
theorem k_put (l : Launch) {b : Nat} {D : va_G} {Y : Nat → ClassId} {s0 : State} (Z : jS0 b D Y s0) (d n : Nat) (h : jH) (HD : jDesk Y h d) (x0 : Int32) : jMet l D s0 y_Desk_put c_Desk_put 2 (some .int) 6 [.ref d, .int x0] h n 0 0 (fun r h2 n2 => r = some (.int 1) ∧ n = n2 ∧ ∀ x, (x < d ∨ d + 208 ≤ x) → h2 x = h x) := by
  refine jMet_of Z (by decide) (Nat.le_of_ble_eq_true rfl) ?_
  intro p e s m below meth c
  obtain ⟨D0, D1, D2, D3, D8, D9, D10, D37, D38, D202, D203⟩ := HD
  refine j_aload_n d_Desk_put_0 0 rfl ?_
  refine j_get iw_Desk (ci := 8) (kf := 1) rfl (by decide) g_305 d_Desk_put_1 D0 rfl ?_
  refine j_bipush d_Desk_put_4 (v := 13) (by decide) ?_
  refine j_icmp_lt_t (tgt := 19) d_Desk_put_6 (by decide) (by decide) ?_
  refine j_aload_n d_Desk_put_19 0 rfl ?_
  refine j_get iw_Desk (ci := 8) (kf := 0) rfl (by decide) g_304 d_Desk_put_20 D0 rfl ?_
  refine j_aload_n d_Desk_put_23 0 rfl ?_
  refine j_get iw_Desk (ci := 8) (kf := 1) rfl (by decide) g_305 d_Desk_put_24 D0 rfl ?_
  refine j_iload_n d_Desk_put_27 1 rfl ?_
  refine j_iast d_Desk_put_28 D1 (by unfold vp_in; decide) ?_
  refine j_aload_n d_Desk_put_29 0 rfl ?_
  refine j_dup d_Desk_put_30 rfl ?_
  refine j_get iw_Desk (ci := 8) (kf := 1) rfl (by decide) g_305 d_Desk_put_31 ((jh_up_n _ _ (by omega)).trans D0) rfl ?_
  refine j_iconst d_Desk_put_34 (v := 1) (by decide) ?_
  refine j_iadd d_Desk_put_35 ?_
  refine j_put iw_Desk t_Desk t_Desk_ok n_Desk (ci := 8) (kf := 1) rfl (by decide) g_305 rfl (t_Desk_ok 1 (by decide)) rfl rfl d_Desk_put_36 ((jh_up_n _ _ (by omega)).trans D0) (Nat.le_of_ble_eq_true rfl) ?_
  refine j_aload_n d_Desk_put_39 0 rfl ?_
  refine j_get iw_Desk (ci := 8) (kf := 1) rfl (by decide) g_305 d_Desk_put_40 (jh_up_s _ _ _) rfl ?_
  refine j_iret rfl d_Desk_put_43 ⟨rfl, rfl, fun x hx => ?_⟩
  exact ((jh_up_n _ _ (by omega)).trans (jh_up_n _ _ (by omega)))
set_option maxHeartbeats 4000000 in
set_option maxRecDepth 100000 in
theorem k_clear (l : Launch) {b : Nat} {D : va_G} {Y : Nat → ClassId} {s0 : State} (Z : jS0 b D Y s0) (d n : Nat) (h : jH) (HD : jDesk Y h d) : jMet l D s0 y_Desk_clear c_Desk_clear 2 (some .int) 6 [.ref d] h n 0 0 (fun r h2 n2 => r = some (.int 0) ∧ n = n2 ∧ ∀ x, (x < d ∨ d + 208 ≤ x) → h2 x = h x) := by
  refine jMet_of Z (by decide) (Nat.le_of_ble_eq_true rfl) ?_
  intro p e s m below meth c
  obtain ⟨D0, D1, D2, D3, D8, D9, D10, D37, D38, D202, D203⟩ := HD
  refine j_aload_n d_Desk_clear_0 0 rfl ?_
  refine j_get iw_Desk (ci := 8) (kf := 1) rfl (by decide) g_305 d_Desk_clear_1 D0 rfl ?_
  refine j_istore_n d_Desk_clear_4 (Nat.le_of_ble_eq_true rfl) rfl ?_
  refine j_aload_n d_Desk_clear_5 1 rfl ?_
  refine j_iconst d_Desk_clear_6 (v := 0) (by decide) ?_
  refine j_put iw_Desk t_Desk t_Desk_ok n_Desk (ci := 8) (kf := 1) rfl (by decide) g_305 rfl (t_Desk_ok 1 (by decide)) rfl rfl d_Desk_clear_7 D0 (Nat.le_of_ble_eq_true rfl) ?_
  refine j_iload_n d_Desk_clear_10 0 rfl ?_
  refine j_iret rfl d_Desk_clear_11 ⟨rfl, rfl, fun x hx => ?_⟩
  exact (jh_up_n _ _ (by omega))
set_option maxHeartbeats 4000000 in
set_option maxRecDepth 100000 in
theorem k_tapeTop (l : Launch) {b : Nat} {D : va_G} {Y : Nat → ClassId} {s0 : State} (Z : jS0 b D Y s0) (d n : Nat) (h : jH) (HD : jDesk Y h d) : jMet l D s0 y_Desk_tapeTop c_Desk_tapeTop 2 (some .int) 1 [.ref d] h n 0 0 (fun r h2 n2 => r = some (.int (-1)) ∧ h = h2 ∧ n = n2) := by
  refine jMet_of Z (by decide) (Nat.le_of_ble_eq_true rfl) ?_
  intro p e s m below meth c
  obtain ⟨D0, D1, D2, D3, D8, D9, D10, D37, D38, D202, D203⟩ := HD
  refine j_aload_n d_Desk_tapeTop_0 0 rfl ?_
  refine j_get iw_Desk (ci := 8) (kf := 1) rfl (by decide) g_305 d_Desk_tapeTop_1 D0 rfl ?_
  refine j_iconst d_Desk_tapeTop_4 (v := 1) (by decide) ?_
  refine j_isub d_Desk_tapeTop_5 ?_
  refine j_istore_n d_Desk_tapeTop_6 (Nat.le_of_ble_eq_true rfl) rfl ?_
  refine j_iload_n d_Desk_tapeTop_7 0 rfl ?_
  refine j_if_lt_t (tgt := 26) d_Desk_tapeTop_8 (by decide) (by decide) ?_
  refine j_iload_n d_Desk_tapeTop_26 0 rfl ?_
  exact j_iret rfl d_Desk_tapeTop_27 ⟨rfl, rfl, rfl⟩
set_option maxHeartbeats 4000000 in
set_option maxRecDepth 100000 in
theorem x_take (l : Launch) {b : Nat} {D : va_G} {Y : Nat → ClassId} {s0 : State} (Z : jS0 b D Y s0) (hlt : l.stackTraces = false) (d n : Nat) (h : jH) (HD : jDesk Y h d) : jMetX l D s0 y_Desk_take c_Desk_take 2 (some .int) 6 [.ref d] h n 1 6 "java/lang/IllegalArgumentException" (fun h2 n2 => h2 = h ∧ n2 = n + 1) := by
  refine jMetX_of Z (by decide) (Nat.le_of_ble_eq_true rfl) ?_
  intro p e s m below meth c hnl
  obtain ⟨D0, D1, D2, D3, D8, D9, D10, D37, D38, D202, D203⟩ := HD
  refine j_aload_n d_Desk_take_0 0 rfl ?_
  refine j_callV (k_tapeTop l Z d _ _ ⟨D0, D1, D2, D3, D8, D9, D10, D37, D38, D202, D203⟩) ⟨⟨Nat.le_of_ble_eq_true rfl, Nat.le_of_ble_eq_true rfl⟩, g_717, g_720, g_1, by decide +kernel⟩ g_719 gp_20 (ci := 8) rfl D0 ⟨(by first | exact Nat.le_of_ble_eq_true rfl | (simp only [jrm]; omega)), (by first | exact Nat.le_of_ble_eq_true rfl | (simp only [jrm]; omega))⟩ (Nat.le_of_ble_eq_true rfl) d_Desk_take_1 (fun r0 h0 n0 P0 => ?_)
  obtain ⟨rfl, rfl, rfl⟩ := P0
  refine j_istore_n d_Desk_take_4 (Nat.le_of_ble_eq_true rfl) rfl ?_
  refine j_iload_n d_Desk_take_5 0 rfl ?_
  refine j_if_ge_f (tgt := 19) d_Desk_take_6 (by decide) (by decide) ?_
  exact j_throwS hlt hnl hat_IAE hca_IAE hdc_IAE (by decide +kernel) jNm_fit g_721 g_722 g_15 hsr_74 hsx_74 d_Desk_take_9 d_Desk_take_12 d_Desk_take_13 d_Desk_take_15 d_Desk_take_18 (Nat.le_of_ble_eq_true rfl) (Nat.le_of_ble_eq_true rfl) (Nat.le_of_ble_eq_true rfl) (Nat.le_of_ble_eq_true rfl) ⟨rfl, rfl⟩
set_option maxHeartbeats 4000000 in
set_option maxRecDepth 100000 in
theorem x_times (l : Launch) {b : Nat} {D : va_G} {Y : Nat → ClassId} {s0 : State} (Z : jS0 b D Y s0) (hlt : l.stackTraces = false) (d n : Nat) (h : jH) (HD : jDesk Y h d) : jMetX l D s0 y_Desk_times c_Desk_times 2 (some .int) 6 [.ref d] h n 1 6 "java/lang/IllegalArgumentException" (fun h2 n2 => h2 = h ∧ n2 = n + 1) := by
  refine jMetX_of Z (by decide) (Nat.le_of_ble_eq_true rfl) ?_
  intro p e s m below meth c hnl
  obtain ⟨D0, D1, D2, D3, D8, D9, D10, D37, D38, D202, D203⟩ := HD
  refine j_aload_n d_Desk_times_0 0 rfl ?_
  refine j_callV (k_tapeTop l Z d _ _ ⟨D0, D1, D2, D3, D8, D9, D10, D37, D38, D202, D203⟩) ⟨⟨Nat.le_of_ble_eq_true rfl, Nat.le_of_ble_eq_true rfl⟩, g_717, g_720, g_1, by decide +kernel⟩ g_719 gp_20 (ci := 8) rfl D0 ⟨(by first | exact Nat.le_of_ble_eq_true rfl | (simp only [jrm]; omega)), (by first | exact Nat.le_of_ble_eq_true rfl | (simp only [jrm]; omega))⟩ (Nat.le_of_ble_eq_true rfl) d_Desk_times_1 (fun r0 h0 n0 P0 => ?_)
  obtain ⟨rfl, rfl, rfl⟩ := P0
  refine j_istore_n d_Desk_times_4 (Nat.le_of_ble_eq_true rfl) rfl ?_
  refine j_iload_n d_Desk_times_5 0 rfl ?_
  refine j_if_ge_f (tgt := 19) d_Desk_times_6 (by decide) (by decide) ?_
  exact j_throwS hlt hnl hat_IAE hca_IAE hdc_IAE (by decide +kernel) jNm_fit g_721 g_722 g_15 hsr_74 hsx_74 d_Desk_times_9 d_Desk_times_12 d_Desk_times_13 d_Desk_times_15 d_Desk_times_18 (Nat.le_of_ble_eq_true rfl) (Nat.le_of_ble_eq_true rfl) (Nat.le_of_ble_eq_true rfl) (Nat.le_of_ble_eq_true rfl) ⟨rfl, rfl⟩
set_option maxHeartbeats 4000000 in
set_option maxRecDepth 100000 in
theorem x_common (l : Launch) {b : Nat} {D : va_G} {Y : Nat → ClassId} {s0 : State} (Z : jS0 b D Y s0) (hlt : l.stackTraces = false) (d n : Nat) (h : jH) (HD : jDesk Y h d) : jMetX l D s0 y_Desk_common c_Desk_common 2 (some .int) 6 [.ref d] h n 1 6 "java/lang/IllegalArgumentException" (fun h2 n2 => h2 = h ∧ n2 = n + 1) := by
  refine jMetX_of Z (by decide) (Nat.le_of_ble_eq_true rfl) ?_
  intro p e s m below meth c hnl
  obtain ⟨D0, D1, D2, D3, D8, D9, D10, D37, D38, D202, D203⟩ := HD
  refine j_aload_n d_Desk_common_0 0 rfl ?_
  refine j_callV (k_tapeTop l Z d _ _ ⟨D0, D1, D2, D3, D8, D9, D10, D37, D38, D202, D203⟩) ⟨⟨Nat.le_of_ble_eq_true rfl, Nat.le_of_ble_eq_true rfl⟩, g_717, g_720, g_1, by decide +kernel⟩ g_719 gp_20 (ci := 8) rfl D0 ⟨(by first | exact Nat.le_of_ble_eq_true rfl | (simp only [jrm]; omega)), (by first | exact Nat.le_of_ble_eq_true rfl | (simp only [jrm]; omega))⟩ (Nat.le_of_ble_eq_true rfl) d_Desk_common_1 (fun r0 h0 n0 P0 => ?_)
  obtain ⟨rfl, rfl, rfl⟩ := P0
  refine j_istore_n d_Desk_common_4 (Nat.le_of_ble_eq_true rfl) rfl ?_
  refine j_iload_n d_Desk_common_5 0 rfl ?_
  refine j_if_ge_f (tgt := 19) d_Desk_common_6 (by decide) (by decide) ?_
  exact j_throwS hlt hnl hat_IAE hca_IAE hdc_IAE (by decide +kernel) jNm_fit g_721 g_722 g_15 hsr_74 hsx_74 d_Desk_common_9 d_Desk_common_12 d_Desk_common_13 d_Desk_common_15 d_Desk_common_18 (Nat.le_of_ble_eq_true rfl) (Nat.le_of_ble_eq_true rfl) (Nat.le_of_ble_eq_true rfl) (Nat.le_of_ble_eq_true rfl) ⟨rfl, rfl⟩
set_option maxHeartbeats 4000000 in
set_option maxRecDepth 100000 in
theorem x_divides (l : Launch) {b : Nat} {D : va_G} {Y : Nat → ClassId} {s0 : State} (Z : jS0 b D Y s0) (hlt : l.stackTraces = false) (d n : Nat) (h : jH) (HD : jDesk Y h d) : jMetX l D s0 y_Desk_divides c_Desk_divides 2 (some .boolean) 6 [.ref d] h n 1 6 "java/lang/IllegalArgumentException" (fun h2 n2 => h2 = h ∧ n2 = n + 1) := by
  refine jMetX_of Z (by decide) (Nat.le_of_ble_eq_true rfl) ?_
  intro p e s m below meth c hnl
  obtain ⟨D0, D1, D2, D3, D8, D9, D10, D37, D38, D202, D203⟩ := HD
  refine j_aload_n d_Desk_divides_0 0 rfl ?_
  refine j_callV (k_tapeTop l Z d _ _ ⟨D0, D1, D2, D3, D8, D9, D10, D37, D38, D202, D203⟩) ⟨⟨Nat.le_of_ble_eq_true rfl, Nat.le_of_ble_eq_true rfl⟩, g_717, g_720, g_1, by decide +kernel⟩ g_719 gp_20 (ci := 8) rfl D0 ⟨(by first | exact Nat.le_of_ble_eq_true rfl | (simp only [jrm]; omega)), (by first | exact Nat.le_of_ble_eq_true rfl | (simp only [jrm]; omega))⟩ (Nat.le_of_ble_eq_true rfl) d_Desk_divides_1 (fun r0 h0 n0 P0 => ?_)
  obtain ⟨rfl, rfl, rfl⟩ := P0
  refine j_istore_n d_Desk_divides_4 (Nat.le_of_ble_eq_true rfl) rfl ?_
  refine j_iload_n d_Desk_divides_5 0 rfl ?_
  refine j_if_ge_f (tgt := 19) d_Desk_divides_6 (by decide) (by decide) ?_
  exact j_throwS hlt hnl hat_IAE hca_IAE hdc_IAE (by decide +kernel) jNm_fit g_721 g_722 g_15 hsr_74 hsx_74 d_Desk_divides_9 d_Desk_divides_12 d_Desk_divides_13 d_Desk_divides_15 d_Desk_divides_18 (Nat.le_of_ble_eq_true rfl) (Nat.le_of_ble_eq_true rfl) (Nat.le_of_ble_eq_true rfl) (Nat.le_of_ble_eq_true rfl) ⟨rfl, rfl⟩
set_option maxHeartbeats 4000000 in
set_option maxRecDepth 100000 in
theorem k_degree (l : Launch) {b : Nat} {D : va_G} {Y : Nat → ClassId} {s0 : State} (Z : jS0 b D Y s0) (d n : Nat) (h : jH) (HD : jDesk Y h d) : jMet l D s0 y_Desk_degree c_Desk_degree 1 (some .int) 6 [.ref d] h n 0 0 (fun r h2 n2 => r = some (.int 0) ∧ n = n2 ∧ ∀ x, (x < d ∨ d + 208 ≤ x) → h2 x = h x) := by
  refine jMet_of Z (by decide) (Nat.le_of_ble_eq_true rfl) ?_
  intro p e s m below meth c
  obtain ⟨D0, D1, D2, D3, D8, D9, D10, D37, D38, D202, D203⟩ := HD
  refine j_aload_n d_Desk_degree_0 0 rfl ?_
  refine j_get iw_Desk (ci := 8) (kf := 2) rfl (by decide) g_306 d_Desk_degree_1 D0 rfl ?_
  refine j_get iw_Poly (ci := 0) (kf := 1) rfl (by decide) g_48 d_Desk_degree_4 D2 rfl ?_
  exact j_iret rfl d_Desk_degree_7 ⟨rfl, rfl, fun x hx => rfl⟩
set_option maxHeartbeats 4000000 in
set_option maxRecDepth 100000 in
theorem k_content (l : Launch) {b : Nat} {D : va_G} {Y : Nat → ClassId} {s0 : State} (Z : jS0 b D Y s0) (d n : Nat) (h : jH) (HD : jDesk Y h d) : jMet l D s0 y_Desk_content c_Desk_content 3 (some .long) 3 [.ref d] h n 0 0 (fun r h2 n2 => r = some (.long 1) ∧ h = h2 ∧ n = n2) := by
  refine jMet_of Z (by decide) (Nat.le_of_ble_eq_true rfl) ?_
  intro p e s m below meth c
  obtain ⟨D0, D1, D2, D3, D8, D9, D10, D37, D38, D202, D203⟩ := HD
  refine j_aload_n d_Desk_content_0 0 rfl ?_
  refine j_get iw_Desk (ci := 8) (kf := 2) rfl (by decide) g_306 d_Desk_content_1 D0 rfl ?_
  refine j_callV (k_greatestNumber l Z (d + 2) (d + 3) _ _ D2 D3) ⟨⟨Nat.le_of_ble_eq_true rfl, Nat.le_of_ble_eq_true rfl⟩, g_347, g_350, g_2, by decide +kernel⟩ g_348 g_349 (ci := 0) rfl D2 ⟨(by first | exact Nat.le_of_ble_eq_true rfl | (simp only [jrm]; omega)), (by first | exact Nat.le_of_ble_eq_true rfl | (simp only [jrm]; omega))⟩ (Nat.le_of_ble_eq_true rfl) d_Desk_content_4 (fun r0 h0 n0 P0 => ?_)
  obtain ⟨rfl, rfl, rfl⟩ := P0
  refine j_lstore_n d_Desk_content_7 (Nat.le_of_ble_eq_true rfl) rfl ?_
  refine j_aload_n d_Desk_content_8 1 rfl ?_
  refine j_get iw_Desk (ci := 8) (kf := 2) rfl (by decide) g_306 d_Desk_content_9 D0 rfl ?_
  refine j_callV (k_leading l Z (d + 2) (d + 3) _ _ D2 D3) ⟨⟨Nat.le_of_ble_eq_true rfl, Nat.le_of_ble_eq_true rfl⟩, g_354, g_357, g_2, by decide +kernel⟩ g_355 g_356 (ci := 0) rfl D2 ⟨(by first | exact Nat.le_of_ble_eq_true rfl | (simp only [jrm]; omega)), (by first | exact Nat.le_of_ble_eq_true rfl | (simp only [jrm]; omega))⟩ (Nat.le_of_ble_eq_true rfl) d_Desk_content_12 (fun r1 h1 n1 P1 => ?_)
  obtain ⟨rfl, rfl, rfl⟩ := P1
  refine j_lconst d_Desk_content_15 (v := 0) (by decide) ?_
  refine j_lcmp d_Desk_content_16 ?_
  refine j_if_ge_t (tgt := 25) d_Desk_content_17 (by decide) (by decide) ?_
  refine j_lload_n d_Desk_content_25 0 rfl ?_
  exact j_lret rfl d_Desk_content_26 ⟨rfl, rfl, rfl⟩
set_option maxHeartbeats 4000000 in
set_option maxRecDepth 100000 in
theorem k_at (l : Launch) {b : Nat} {D : va_G} {Y : Nat → ClassId} {s0 : State} (Z : jS0 b D Y s0) (d n : Nat) (h : jH) (HD : jDesk Y h d) (x0 : Int32) (h1 : ¬ x0 < 0) (h2 : x0 ≤ 12) : jMet l D s0 y_Desk_at c_Desk_at 2 (some .int) 6 [.ref d, .int x0] h n 0 0 (fun r h2 n2 => r = some (.int (jOne x0.toNatClampNeg).toInt32) ∧ n = n2 ∧ ∀ x, (x < d ∨ d + 208 ≤ x) → h2 x = h x) := by
  refine jMet_of Z (by decide) (Nat.le_of_ble_eq_true rfl) ?_
  intro p e s m below meth c
  obtain ⟨D0, D1, D2, D3, D8, D9, D10, D37, D38, D202, D203⟩ := HD
  refine j_iload_n d_Desk_at_0 1 rfl ?_
  refine j_if_lt_f (tgt := 10) d_Desk_at_1 (by decide) h1 ?_
  refine j_iload_n d_Desk_at_4 1 rfl ?_
  refine j_bipush d_Desk_at_5 (v := 12) (by decide) ?_
  refine j_icmp_le_t (tgt := 20) d_Desk_at_7 (by decide) h2 ?_
  refine j_aload_n d_Desk_at_20 0 rfl ?_
  refine j_get iw_Desk (ci := 8) (kf := 2) rfl (by decide) g_306 d_Desk_at_21 D0 rfl ?_
  refine j_get iw_Poly (ci := 0) (kf := 0) rfl (by decide) g_39 d_Desk_at_24 D2 rfl ?_
  refine j_iload_n d_Desk_at_27 1 rfl ?_
  refine j_lald d_Desk_at_28 D3 (by
    obtain ⟨j, hj, rfl⟩ := nI_of2 (M := 12) (n := 12) rfl h1 h2
    exact nI_in (by omega) (by decide)) ?_
  refine j_l2i d_Desk_at_29 rfl ?_
  exact j_iret rfl d_Desk_at_30 ⟨rfl, rfl, fun x hx => rfl⟩
set_option maxHeartbeats 4000000 in
set_option maxRecDepth 100000 in
theorem x_at (l : Launch) {b : Nat} {D : va_G} {Y : Nat → ClassId} {s0 : State} (Z : jS0 b D Y s0) (hlt : l.stackTraces = false) (d n : Nat) (h : jH) (HD : jDesk Y h d) (x0 : Int32) (h1 : x0 < 0 ∨ ¬ x0 ≤ 12) : jMetX l D s0 y_Desk_at c_Desk_at 2 (some .int) 6 [.ref d, .int x0] h n 1 6 "java/lang/IllegalArgumentException" (fun h2 n2 => h2 = h ∧ n2 = n + 1) := by
  refine jMetX_of Z (by decide) (Nat.le_of_ble_eq_true rfl) ?_
  intro p e s m below meth c hnl
  obtain ⟨D0, D1, D2, D3, D8, D9, D10, D37, D38, D202, D203⟩ := HD
  by_cases h0 : x0 < 0
  · refine j_iload_n d_Desk_at_0 1 rfl ?_
    refine j_if_lt_t (tgt := 10) d_Desk_at_1 (by decide) h0 ?_
    exact j_throwS hlt hnl hat_IAE hca_IAE hdc_IAE (by decide +kernel) jNm_fit g_721 g_722 g_15 hsr_99 hsx_99 d_Desk_at_10 d_Desk_at_13 d_Desk_at_14 d_Desk_at_16 d_Desk_at_19 (Nat.le_of_ble_eq_true rfl) (Nat.le_of_ble_eq_true rfl) (Nat.le_of_ble_eq_true rfl) (Nat.le_of_ble_eq_true rfl) ⟨rfl, rfl⟩
  · refine j_iload_n d_Desk_at_0 1 rfl ?_
    refine j_if_lt_f (tgt := 10) d_Desk_at_1 (by decide) h0 ?_
    refine j_iload_n d_Desk_at_4 1 rfl ?_
    refine j_bipush d_Desk_at_5 (v := 12) (by decide) ?_
    refine j_icmp_le_f (tgt := 20) d_Desk_at_7 (by decide) (h1.resolve_left h0) ?_
    exact j_throwS hlt hnl hat_IAE hca_IAE hdc_IAE (by decide +kernel) jNm_fit g_721 g_722 g_15 hsr_99 hsx_99 d_Desk_at_10 d_Desk_at_13 d_Desk_at_14 d_Desk_at_16 d_Desk_at_19 (Nat.le_of_ble_eq_true rfl) (Nat.le_of_ble_eq_true rfl) (Nat.le_of_ble_eq_true rfl) (Nat.le_of_ble_eq_true rfl) ⟨rfl, rfl⟩
set_option maxHeartbeats 4000000 in
set_option maxRecDepth 100000 in
theorem x_factor (l : Launch) {b : Nat} {D : va_G} {Y : Nat → ClassId} {s0 : State} (Z : jS0 b D Y s0) (hlt : l.stackTraces = false) (d n : Nat) (h : jH) (HD : jDesk Y h d) (x0 x1 : Int32) : jMetX l D s0 y_Desk_factor c_Desk_factor 3 (some .int) 6 [.ref d, .int x0, .int x1] h n 1 6 "java/util/NoSuchElementException" (fun h2 n2 => h2 = h ∧ n2 = n + 1) := by
  refine jMetX_of Z (by decide) (Nat.le_of_ble_eq_true rfl) ?_
  intro p e s m below meth c hnl
  obtain ⟨D0, D1, D2, D3, D8, D9, D10, D37, D38, D202, D203⟩ := HD
  by_cases h0 : x0 < 0
  · refine j_iload_n d_Desk_factor_0 1 rfl ?_
    refine j_if_lt_t (tgt := 24) d_Desk_factor_1 (by decide) h0 ?_
    exact j_throwX dn_0 dn_1 dn_2 dn_5 hlt hnl hat_NSE hca_NSE hdc_NSE (by decide +kernel) jNm_fit g_779 g_780 g_18 hsr_126 hsx_126 d_Desk_factor_24 d_Desk_factor_27 d_Desk_factor_28 d_Desk_factor_30 d_Desk_factor_33 (Nat.le_of_ble_eq_true rfl) (Nat.le_of_ble_eq_true rfl) (Nat.le_of_ble_eq_true rfl) (Nat.le_of_ble_eq_true rfl) ⟨rfl, rfl⟩
  · refine j_iload_n d_Desk_factor_0 1 rfl ?_
    refine j_if_lt_f (tgt := 24) d_Desk_factor_1 (by decide) h0 ?_
    refine j_iload_n d_Desk_factor_4 1 rfl ?_
    refine j_aload_n d_Desk_factor_5 0 rfl ?_
    refine j_get iw_Desk (ci := 8) (kf := 6) rfl (by decide) g_310 d_Desk_factor_6 D0 rfl ?_
    refine j_get iw_FList (ci := 1) (kf := 2) rfl (by decide) g_78 d_Desk_factor_9 D10 rfl ?_
    refine j_icmp_ge_t (tgt := 24) d_Desk_factor_12 (by decide) (Int32.not_lt.mp h0) ?_
    exact j_throwX dn_0 dn_1 dn_2 dn_5 hlt hnl hat_NSE hca_NSE hdc_NSE (by decide +kernel) jNm_fit g_779 g_780 g_18 hsr_126 hsx_126 d_Desk_factor_24 d_Desk_factor_27 d_Desk_factor_28 d_Desk_factor_30 d_Desk_factor_33 (Nat.le_of_ble_eq_true rfl) (Nat.le_of_ble_eq_true rfl) (Nat.le_of_ble_eq_true rfl) (Nat.le_of_ble_eq_true rfl) ⟨rfl, rfl⟩
set_option maxHeartbeats 4000000 in
set_option maxRecDepth 100000 in
theorem x_part (l : Launch) {b : Nat} {D : va_G} {Y : Nat → ClassId} {s0 : State} (Z : jS0 b D Y s0) (hlt : l.stackTraces = false) (d n : Nat) (h : jH) (HD : jDesk Y h d) (x0 x1 : Int32) : jMetX l D s0 y_Desk_part c_Desk_part 3 (some .long) 6 [.ref d, .int x0, .int x1] h n 1 6 "java/util/NoSuchElementException" (fun h2 n2 => h2 = h ∧ n2 = n + 1) := by
  refine jMetX_of Z (by decide) (Nat.le_of_ble_eq_true rfl) ?_
  intro p e s m below meth c hnl
  obtain ⟨D0, D1, D2, D3, D8, D9, D10, D37, D38, D202, D203⟩ := HD
  by_cases h0 : x0 < 0
  · refine j_iload_n d_Desk_part_0 1 rfl ?_
    refine j_if_lt_t (tgt := 35) d_Desk_part_1 (by decide) h0 ?_
    exact j_throwX dn_0 dn_1 dn_2 dn_5 hlt hnl hat_NSE hca_NSE hdc_NSE (by decide +kernel) jNm_fit g_779 g_780 g_18 hsr_136 hsx_136 d_Desk_part_35 d_Desk_part_38 d_Desk_part_39 d_Desk_part_41 d_Desk_part_44 (Nat.le_of_ble_eq_true rfl) (Nat.le_of_ble_eq_true rfl) (Nat.le_of_ble_eq_true rfl) (Nat.le_of_ble_eq_true rfl) ⟨rfl, rfl⟩
  · refine j_iload_n d_Desk_part_0 1 rfl ?_
    refine j_if_lt_f (tgt := 35) d_Desk_part_1 (by decide) h0 ?_
    refine j_iload_n d_Desk_part_4 1 rfl ?_
    refine j_aload_n d_Desk_part_5 0 rfl ?_
    refine j_get iw_Desk (ci := 8) (kf := 6) rfl (by decide) g_310 d_Desk_part_6 D0 rfl ?_
    refine j_get iw_FList (ci := 1) (kf := 2) rfl (by decide) g_78 d_Desk_part_9 D10 rfl ?_
    refine j_icmp_ge_t (tgt := 35) d_Desk_part_12 (by decide) (Int32.not_lt.mp h0) ?_
    exact j_throwX dn_0 dn_1 dn_2 dn_5 hlt hnl hat_NSE hca_NSE hdc_NSE (by decide +kernel) jNm_fit g_779 g_780 g_18 hsr_136 hsx_136 d_Desk_part_35 d_Desk_part_38 d_Desk_part_39 d_Desk_part_41 d_Desk_part_44 (Nat.le_of_ble_eq_true rfl) (Nat.le_of_ble_eq_true rfl) (Nat.le_of_ble_eq_true rfl) (Nat.le_of_ble_eq_true rfl) ⟨rfl, rfl⟩
set_option maxHeartbeats 4000000 in
set_option maxRecDepth 100000 in
theorem k_divisor (l : Launch) {b : Nat} {D : va_G} {Y : Nat → ClassId} {s0 : State} (Z : jS0 b D Y s0) (d n : Nat) (h : jH) (HD : jDesk Y h d) : jMet l D s0 y_Desk_divisor c_Desk_divisor 2 (some .long) 6 [.ref d, .int 0] h n 0 0 (fun r h2 n2 => r = some (.long 1) ∧ n = n2 ∧ ∀ x, (x < d ∨ d + 208 ≤ x) → h2 x = h x) := by
  refine jMet_of Z (by decide) (Nat.le_of_ble_eq_true rfl) ?_
  intro p e s m below meth c
  obtain ⟨D0, D1, D2, D3, D8, D9, D10, D37, D38, D202, D203⟩ := HD
  refine j_iload_n d_Desk_divisor_0 1 rfl ?_
  refine j_if_lt_f (tgt := 15) d_Desk_divisor_1 (by decide) (by decide) ?_
  refine j_iload_n d_Desk_divisor_4 1 rfl ?_
  refine j_aload_n d_Desk_divisor_5 0 rfl ?_
  refine j_get iw_Desk (ci := 8) (kf := 5) rfl (by decide) g_309 d_Desk_divisor_6 D0 rfl ?_
  refine j_get iw_Poly (ci := 0) (kf := 1) rfl (by decide) g_48 d_Desk_divisor_9 D8 rfl ?_
  refine j_icmp_le_t (tgt := 25) d_Desk_divisor_12 (by decide) (by decide) ?_
  refine j_aload_n d_Desk_divisor_25 0 rfl ?_
  refine j_get iw_Desk (ci := 8) (kf := 5) rfl (by decide) g_309 d_Desk_divisor_26 D0 rfl ?_
  refine j_get iw_Poly (ci := 0) (kf := 0) rfl (by decide) g_39 d_Desk_divisor_29 D8 rfl ?_
  refine j_iload_n d_Desk_divisor_32 1 rfl ?_
  refine j_lald d_Desk_divisor_33 D9 (by unfold vp_in; decide) ?_
  exact j_lret rfl d_Desk_divisor_34 ⟨rfl, rfl, fun x hx => rfl⟩
set_option maxHeartbeats 4000000 in
set_option maxRecDepth 100000 in
theorem x_divisor (l : Launch) {b : Nat} {D : va_G} {Y : Nat → ClassId} {s0 : State} (Z : jS0 b D Y s0) (hlt : l.stackTraces = false) (d n : Nat) (h : jH) (HD : jDesk Y h d) (x0 : Int32) (h1 : ¬ x0 = 0) : jMetX l D s0 y_Desk_divisor c_Desk_divisor 2 (some .long) 6 [.ref d, .int x0] h n 1 6 "java/util/NoSuchElementException" (fun h2 n2 => h2 = h ∧ n2 = n + 1) := by
  refine jMetX_of Z (by decide) (Nat.le_of_ble_eq_true rfl) ?_
  intro p e s m below meth c hnl
  obtain ⟨D0, D1, D2, D3, D8, D9, D10, D37, D38, D202, D203⟩ := HD
  by_cases h0 : x0 < 0
  · refine j_iload_n d_Desk_divisor_0 1 rfl ?_
    refine j_if_lt_t (tgt := 15) d_Desk_divisor_1 (by decide) h0 ?_
    exact j_throwX dn_0 dn_1 dn_2 dn_5 hlt hnl hat_NSE hca_NSE hdc_NSE (by decide +kernel) jNm_fit g_779 g_780 g_18 hsr_156 hsx_156 d_Desk_divisor_15 d_Desk_divisor_18 d_Desk_divisor_19 d_Desk_divisor_21 d_Desk_divisor_24 (Nat.le_of_ble_eq_true rfl) (Nat.le_of_ble_eq_true rfl) (Nat.le_of_ble_eq_true rfl) (Nat.le_of_ble_eq_true rfl) ⟨rfl, rfl⟩
  · refine j_iload_n d_Desk_divisor_0 1 rfl ?_
    refine j_if_lt_f (tgt := 15) d_Desk_divisor_1 (by decide) h0 ?_
    refine j_iload_n d_Desk_divisor_4 1 rfl ?_
    refine j_aload_n d_Desk_divisor_5 0 rfl ?_
    refine j_get iw_Desk (ci := 8) (kf := 5) rfl (by decide) g_309 d_Desk_divisor_6 D0 rfl ?_
    refine j_get iw_Poly (ci := 0) (kf := 1) rfl (by decide) g_48 d_Desk_divisor_9 D8 rfl ?_
    refine j_icmp_le_f (tgt := 25) d_Desk_divisor_12 (by decide) (fun h2 => h1 (Int32.le_antisymm h2 (Int32.not_lt.mp h0))) ?_
    exact j_throwX dn_0 dn_1 dn_2 dn_5 hlt hnl hat_NSE hca_NSE hdc_NSE (by decide +kernel) jNm_fit g_779 g_780 g_18 hsr_156 hsx_156 d_Desk_divisor_15 d_Desk_divisor_18 d_Desk_divisor_19 d_Desk_divisor_21 d_Desk_divisor_24 (Nat.le_of_ble_eq_true rfl) (Nat.le_of_ble_eq_true rfl) (Nat.le_of_ble_eq_true rfl) (Nat.le_of_ble_eq_true rfl) ⟨rfl, rfl⟩
