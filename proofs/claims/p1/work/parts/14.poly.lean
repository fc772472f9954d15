abbrev c_Desk_greatestOf : ByteArray := prog_1_method_21_code
abbrev y_Desk_greatestOf : MethodName := ⟨"FactorDesk", "greatestOf", "(JJ)J"⟩
theorem d_Desk_greatestOf_0 : decode c_Desk_greatestOf 0 = .ok (.lload_n 0, 1) := by decide +kernel
theorem d_Desk_greatestOf_1 : decode c_Desk_greatestOf 1 = .ok (.lconst 0, 1) := by decide +kernel
theorem d_Desk_greatestOf_2 : decode c_Desk_greatestOf 2 = .ok (.lcmp, 1) := by decide +kernel
theorem d_Desk_greatestOf_3 : decode c_Desk_greatestOf 3 = .ok (.ifCond .ge 8, 3) := by decide +kernel
theorem d_Desk_greatestOf_6 : decode c_Desk_greatestOf 6 = .ok (.lload_n 0, 1) := by decide +kernel
theorem d_Desk_greatestOf_7 : decode c_Desk_greatestOf 7 = .ok (.lneg, 1) := by decide +kernel
theorem d_Desk_greatestOf_8 : decode c_Desk_greatestOf 8 = .ok (.goto 4, 3) := by decide +kernel
theorem d_Desk_greatestOf_11 : decode c_Desk_greatestOf 11 = .ok (.lload_n 0, 1) := by decide +kernel
theorem d_Desk_greatestOf_12 : decode c_Desk_greatestOf 12 = .ok (.lstore 4, 2) := by decide +kernel
theorem d_Desk_greatestOf_14 : decode c_Desk_greatestOf 14 = .ok (.lload_n 2, 1) := by decide +kernel
theorem d_Desk_greatestOf_15 : decode c_Desk_greatestOf 15 = .ok (.lconst 0, 1) := by decide +kernel
theorem d_Desk_greatestOf_16 : decode c_Desk_greatestOf 16 = .ok (.lcmp, 1) := by decide +kernel
theorem d_Desk_greatestOf_17 : decode c_Desk_greatestOf 17 = .ok (.ifCond .ge 8, 3) := by decide +kernel
theorem d_Desk_greatestOf_20 : decode c_Desk_greatestOf 20 = .ok (.lload_n 2, 1) := by decide +kernel
theorem d_Desk_greatestOf_21 : decode c_Desk_greatestOf 21 = .ok (.lneg, 1) := by decide +kernel
theorem d_Desk_greatestOf_22 : decode c_Desk_greatestOf 22 = .ok (.goto 4, 3) := by decide +kernel
theorem d_Desk_greatestOf_25 : decode c_Desk_greatestOf 25 = .ok (.lload_n 2, 1) := by decide +kernel
theorem d_Desk_greatestOf_26 : decode c_Desk_greatestOf 26 = .ok (.lstore 6, 2) := by decide +kernel
theorem d_Desk_greatestOf_28 : decode c_Desk_greatestOf 28 = .ok (.iconst 0, 1) := by decide +kernel
theorem d_Desk_greatestOf_29 : decode c_Desk_greatestOf 29 = .ok (.istore 8, 2) := by decide +kernel
theorem d_Desk_greatestOf_31 : decode c_Desk_greatestOf 31 = .ok (.iload 8, 2) := by decide +kernel
theorem d_Desk_greatestOf_33 : decode c_Desk_greatestOf 33 = .ok (.sipush 200, 3) := by decide +kernel
theorem d_Desk_greatestOf_36 : decode c_Desk_greatestOf 36 = .ok (.if_icmp .ge 31, 3) := by decide +kernel
theorem d_Desk_greatestOf_39 : decode c_Desk_greatestOf 39 = .ok (.lload 6, 2) := by decide +kernel
theorem d_Desk_greatestOf_41 : decode c_Desk_greatestOf 41 = .ok (.lconst 0, 1) := by decide +kernel
theorem d_Desk_greatestOf_42 : decode c_Desk_greatestOf 42 = .ok (.lcmp, 1) := by decide +kernel
theorem d_Desk_greatestOf_43 : decode c_Desk_greatestOf 43 = .ok (.ifCond .eq 24, 3) := by decide +kernel
theorem d_Desk_greatestOf_46 : decode c_Desk_greatestOf 46 = .ok (.lload 4, 2) := by decide +kernel
theorem d_Desk_greatestOf_48 : decode c_Desk_greatestOf 48 = .ok (.lload 6, 2) := by decide +kernel
theorem d_Desk_greatestOf_50 : decode c_Desk_greatestOf 50 = .ok (.lrem, 1) := by decide +kernel
theorem d_Desk_greatestOf_51 : decode c_Desk_greatestOf 51 = .ok (.lstore 9, 2) := by decide +kernel
theorem d_Desk_greatestOf_53 : decode c_Desk_greatestOf 53 = .ok (.lload 6, 2) := by decide +kernel
theorem d_Desk_greatestOf_55 : decode c_Desk_greatestOf 55 = .ok (.lstore 4, 2) := by decide +kernel
theorem d_Desk_greatestOf_57 : decode c_Desk_greatestOf 57 = .ok (.lload 9, 2) := by decide +kernel
theorem d_Desk_greatestOf_59 : decode c_Desk_greatestOf 59 = .ok (.lstore 6, 2) := by decide +kernel
theorem d_Desk_greatestOf_61 : decode c_Desk_greatestOf 61 = .ok (.iinc 8 1, 3) := by decide +kernel
theorem d_Desk_greatestOf_64 : decode c_Desk_greatestOf 64 = .ok (.goto (-33), 3) := by decide +kernel
theorem d_Desk_greatestOf_67 : decode c_Desk_greatestOf 67 = .ok (.lload 4, 2) := by decide +kernel
theorem d_Desk_greatestOf_69 : decode c_Desk_greatestOf 69 = .ok (.lreturn, 1) := by decide +kernel
abbrev c_Poly_leading : ByteArray := prog_7_method_5_code
abbrev y_Poly_leading : MethodName := ⟨"FactorDesk$Poly", "leading", "()J"⟩
theorem d_Poly_leading_0 : decode c_Poly_leading 0 = .ok (.aload_n 0, 1) := by decide +kernel
theorem d_Poly_leading_1 : decode c_Poly_leading 1 = .ok (.getfield 15, 3) := by decide +kernel
theorem d_Poly_leading_4 : decode c_Poly_leading 4 = .ok (.ifCond .ge 7, 3) := by decide +kernel
theorem d_Poly_leading_7 : decode c_Poly_leading 7 = .ok (.lconst 0, 1) := by decide +kernel
theorem d_Poly_leading_8 : decode c_Poly_leading 8 = .ok (.goto 12, 3) := by decide +kernel
theorem d_Poly_leading_11 : decode c_Poly_leading 11 = .ok (.aload_n 0, 1) := by decide +kernel
theorem d_Poly_leading_12 : decode c_Poly_leading 12 = .ok (.getfield 9, 3) := by decide +kernel
theorem d_Poly_leading_15 : decode c_Poly_leading 15 = .ok (.aload_n 0, 1) := by decide +kernel
theorem d_Poly_leading_16 : decode c_Poly_leading 16 = .ok (.getfield 15, 3) := by decide +kernel
theorem d_Poly_leading_19 : decode c_Poly_leading 19 = .ok (.laload, 1) := by decide +kernel
theorem d_Poly_leading_20 : decode c_Poly_leading 20 = .ok (.lreturn, 1) := by decide +kernel
abbrev c_Poly_greatestNumber : ByteArray := prog_7_method_6_code
abbrev y_Poly_greatestNumber : MethodName := ⟨"FactorDesk$Poly", "greatestNumber", "()J"⟩
theorem d_Poly_greatestNumber_0 : decode c_Poly_greatestNumber 0 = .ok (.lconst 0, 1) := by decide +kernel
theorem d_Poly_greatestNumber_1 : decode c_Poly_greatestNumber 1 = .ok (.lstore_n 1, 1) := by decide +kernel
theorem d_Poly_greatestNumber_2 : decode c_Poly_greatestNumber 2 = .ok (.iconst 0, 1) := by decide +kernel
theorem d_Poly_greatestNumber_3 : decode c_Poly_greatestNumber 3 = .ok (.istore_n 3, 1) := by decide +kernel
theorem d_Poly_greatestNumber_4 : decode c_Poly_greatestNumber 4 = .ok (.iload_n 3, 1) := by decide +kernel
theorem d_Poly_greatestNumber_5 : decode c_Poly_greatestNumber 5 = .ok (.aload_n 0, 1) := by decide +kernel
theorem d_Poly_greatestNumber_6 : decode c_Poly_greatestNumber 6 = .ok (.getfield 15, 3) := by decide +kernel
theorem d_Poly_greatestNumber_9 : decode c_Poly_greatestNumber 9 = .ok (.if_icmp .gt 26, 3) := by decide +kernel
theorem d_Poly_greatestNumber_12 : decode c_Poly_greatestNumber 12 = .ok (.lload_n 1, 1) := by decide +kernel
theorem d_Poly_greatestNumber_13 : decode c_Poly_greatestNumber 13 = .ok (.lconst 1, 1) := by decide +kernel
theorem d_Poly_greatestNumber_14 : decode c_Poly_greatestNumber 14 = .ok (.lcmp, 1) := by decide +kernel
theorem d_Poly_greatestNumber_15 : decode c_Poly_greatestNumber 15 = .ok (.ifCond .eq 20, 3) := by decide +kernel
theorem d_Poly_greatestNumber_18 : decode c_Poly_greatestNumber 18 = .ok (.lload_n 1, 1) := by decide +kernel
theorem d_Poly_greatestNumber_19 : decode c_Poly_greatestNumber 19 = .ok (.aload_n 0, 1) := by decide +kernel
theorem d_Poly_greatestNumber_20 : decode c_Poly_greatestNumber 20 = .ok (.getfield 9, 3) := by decide +kernel
theorem d_Poly_greatestNumber_23 : decode c_Poly_greatestNumber 23 = .ok (.iload_n 3, 1) := by decide +kernel
theorem d_Poly_greatestNumber_24 : decode c_Poly_greatestNumber 24 = .ok (.laload, 1) := by decide +kernel
theorem d_Poly_greatestNumber_25 : decode c_Poly_greatestNumber 25 = .ok (.invokestatic 25, 3) := by decide +kernel
theorem d_Poly_greatestNumber_28 : decode c_Poly_greatestNumber 28 = .ok (.lstore_n 1, 1) := by decide +kernel
theorem d_Poly_greatestNumber_29 : decode c_Poly_greatestNumber 29 = .ok (.iinc 3 1, 3) := by decide +kernel
theorem d_Poly_greatestNumber_32 : decode c_Poly_greatestNumber 32 = .ok (.goto (-28), 3) := by decide +kernel
theorem d_Poly_greatestNumber_35 : decode c_Poly_greatestNumber 35 = .ok (.lload_n 1, 1) := by decide +kernel
theorem d_Poly_greatestNumber_36 : decode c_Poly_greatestNumber 36 = .ok (.lreturn, 1) := by decide +kernel
abbrev c_Poly_makePrimitive : ByteArray := prog_7_method_7_code
abbrev y_Poly_makePrimitive : MethodName := ⟨"FactorDesk$Poly", "makePrimitive", "()V"⟩
theorem d_Poly_makePrimitive_0 : decode c_Poly_makePrimitive 0 = .ok (.aload_n 0, 1) := by decide +kernel
theorem d_Poly_makePrimitive_1 : decode c_Poly_makePrimitive 1 = .ok (.invokevirtual 29, 3) := by decide +kernel
theorem d_Poly_makePrimitive_4 : decode c_Poly_makePrimitive 4 = .ok (.lconst 0, 1) := by decide +kernel
theorem d_Poly_makePrimitive_5 : decode c_Poly_makePrimitive 5 = .ok (.lcmp, 1) := by decide +kernel
theorem d_Poly_makePrimitive_6 : decode c_Poly_makePrimitive 6 = .ok (.ifCond .ge 11, 3) := by decide +kernel
theorem d_Poly_makePrimitive_9 : decode c_Poly_makePrimitive 9 = .ok (.aload_n 0, 1) := by decide +kernel
theorem d_Poly_makePrimitive_10 : decode c_Poly_makePrimitive 10 = .ok (.invokevirtual 33, 3) := by decide +kernel
theorem d_Poly_makePrimitive_13 : decode c_Poly_makePrimitive 13 = .ok (.lneg, 1) := by decide +kernel
theorem d_Poly_makePrimitive_14 : decode c_Poly_makePrimitive 14 = .ok (.goto 7, 3) := by decide +kernel
theorem d_Poly_makePrimitive_17 : decode c_Poly_makePrimitive 17 = .ok (.aload_n 0, 1) := by decide +kernel
theorem d_Poly_makePrimitive_18 : decode c_Poly_makePrimitive 18 = .ok (.invokevirtual 33, 3) := by decide +kernel
theorem d_Poly_makePrimitive_21 : decode c_Poly_makePrimitive 21 = .ok (.lstore_n 1, 1) := by decide +kernel
theorem d_Poly_makePrimitive_22 : decode c_Poly_makePrimitive 22 = .ok (.lload_n 1, 1) := by decide +kernel
theorem d_Poly_makePrimitive_23 : decode c_Poly_makePrimitive 23 = .ok (.lconst 0, 1) := by decide +kernel
theorem d_Poly_makePrimitive_24 : decode c_Poly_makePrimitive 24 = .ok (.lcmp, 1) := by decide +kernel
theorem d_Poly_makePrimitive_25 : decode c_Poly_makePrimitive 25 = .ok (.ifCond .eq 9, 3) := by decide +kernel
theorem d_Poly_makePrimitive_28 : decode c_Poly_makePrimitive 28 = .ok (.lload_n 1, 1) := by decide +kernel
theorem d_Poly_makePrimitive_29 : decode c_Poly_makePrimitive 29 = .ok (.lconst 1, 1) := by decide +kernel
theorem d_Poly_makePrimitive_30 : decode c_Poly_makePrimitive 30 = .ok (.lcmp, 1) := by decide +kernel
theorem d_Poly_makePrimitive_31 : decode c_Poly_makePrimitive 31 = .ok (.ifCond .ne 4, 3) := by decide +kernel
theorem d_Poly_makePrimitive_34 : decode c_Poly_makePrimitive 34 = .ok (.return_, 1) := by decide +kernel
theorem d_Poly_makePrimitive_35 : decode c_Poly_makePrimitive 35 = .ok (.iconst 0, 1) := by decide +kernel
theorem d_Poly_makePrimitive_36 : decode c_Poly_makePrimitive 36 = .ok (.istore_n 3, 1) := by decide +kernel
theorem d_Poly_makePrimitive_37 : decode c_Poly_makePrimitive 37 = .ok (.iload_n 3, 1) := by decide +kernel
theorem d_Poly_makePrimitive_38 : decode c_Poly_makePrimitive 38 = .ok (.aload_n 0, 1) := by decide +kernel
theorem d_Poly_makePrimitive_39 : decode c_Poly_makePrimitive 39 = .ok (.getfield 15, 3) := by decide +kernel
theorem d_Poly_makePrimitive_42 : decode c_Poly_makePrimitive 42 = .ok (.if_icmp .gt 19, 3) := by decide +kernel
theorem d_Poly_makePrimitive_45 : decode c_Poly_makePrimitive 45 = .ok (.aload_n 0, 1) := by decide +kernel
theorem d_Poly_makePrimitive_46 : decode c_Poly_makePrimitive 46 = .ok (.getfield 9, 3) := by decide +kernel
theorem d_Poly_makePrimitive_49 : decode c_Poly_makePrimitive 49 = .ok (.iload_n 3, 1) := by decide +kernel
theorem d_Poly_makePrimitive_50 : decode c_Poly_makePrimitive 50 = .ok (.dup2, 1) := by decide +kernel
theorem d_Poly_makePrimitive_51 : decode c_Poly_makePrimitive 51 = .ok (.laload, 1) := by decide +kernel
theorem d_Poly_makePrimitive_52 : decode c_Poly_makePrimitive 52 = .ok (.lload_n 1, 1) := by decide +kernel
theorem d_Poly_makePrimitive_53 : decode c_Poly_makePrimitive 53 = .ok (.ldiv, 1) := by decide +kernel
theorem d_Poly_makePrimitive_54 : decode c_Poly_makePrimitive 54 = .ok (.lastore, 1) := by decide +kernel
theorem d_Poly_makePrimitive_55 : decode c_Poly_makePrimitive 55 = .ok (.iinc 3 1, 3) := by decide +kernel
theorem d_Poly_makePrimitive_58 : decode c_Poly_makePrimitive 58 = .ok (.goto (-21), 3) := by decide +kernel
theorem d_Poly_makePrimitive_61 : decode c_Poly_makePrimitive 61 = .ok (.return_, 1) := by decide +kernel
theorem g_353 : jG (Jvm.Cond.code ({ cls := "FactorDesk", name := "greatestOf", desc := "(JJ)J" } : Jvm.MethodName) prog_1_method_21_code (11 : Nat) (Option.some Jvm.ClassFile.FieldType.long)) := jG_of 418 (by decide +kernel) (by decide +kernel)
theorem g_1 : jG (Jvm.Cond.initialized "FactorDesk") := jG_of 66 (by decide +kernel) (by decide +kernel)
theorem g_352 : jG (Jvm.Cond.static ({ cls := "FactorDesk", name := "greatestOf", desc := "(JJ)J" } : Jvm.MethodName)) := jG_of 417 (by decide +kernel) (by decide +kernel)
theorem g_377 : jG (Jvm.Cond.methodLink "FactorDesk$Poly" (29 : Nat) ({ cls := "FactorDesk$Poly", name := "leading", desc := "()J" } : Jvm.MethodName)) := jG_of 442 (by decide +kernel) (by decide +kernel)
theorem g_357 : jG (Jvm.Cond.code ({ cls := "FactorDesk$Poly", name := "leading", desc := "()J" } : Jvm.MethodName) prog_7_method_5_code (1 : Nat) (Option.some Jvm.ClassFile.FieldType.long)) := jG_of 422 (by decide +kernel) (by decide +kernel)
theorem g_355 : jG (Jvm.Cond.instanceMethod ({ cls := "FactorDesk$Poly", name := "leading", desc := "()J" } : Jvm.MethodName)) := jG_of 420 (by decide +kernel) (by decide +kernel)
theorem g_356 : jG (Jvm.Cond.selects "FactorDesk$Poly" ({ cls := "FactorDesk$Poly", name := "leading", desc := "()J" } : Jvm.MethodName) ({ cls := "FactorDesk$Poly", name := "leading", desc := "()J" } : Jvm.MethodName)) := jG_of 421 (by decide +kernel) (by decide +kernel)
theorem g_378 : jG (Jvm.Cond.methodLink "FactorDesk$Poly" (33 : Nat) ({ cls := "FactorDesk$Poly", name := "greatestNumber", desc := "()J" } : Jvm.MethodName)) := jG_of 443 (by decide +kernel) (by decide +kernel)
theorem g_350 : jG (Jvm.Cond.code ({ cls := "FactorDesk$Poly", name := "greatestNumber", desc := "()J" } : Jvm.MethodName) prog_7_method_6_code (4 : Nat) (Option.some Jvm.ClassFile.FieldType.long)) := jG_of 415 (by decide +kernel) (by decide +kernel)
theorem g_348 : jG (Jvm.Cond.instanceMethod ({ cls := "FactorDesk$Poly", name := "greatestNumber", desc := "()J" } : Jvm.MethodName)) := jG_of 413 (by decide +kernel) (by decide +kernel)
theorem g_349 : jG (Jvm.Cond.selects "FactorDesk$Poly" ({ cls := "FactorDesk$Poly", name := "greatestNumber", desc := "()J" } : Jvm.MethodName) ({ cls := "FactorDesk$Poly", name := "greatestNumber", desc := "()J" } : Jvm.MethodName)) := jG_of 414 (by decide +kernel) (by decide +kernel)
set_option maxHeartbeats 4000000 in
set_option maxRecDepth 100000 in
theorem k_gOf01 (l : Launch) {b : Nat} {D : va_G} {Y : Nat → ClassId} {s0 : State} (Z : jS0 b D Y s0) (n : Nat) (h : jH) : jMet l D s0 y_Desk_greatestOf c_Desk_greatestOf 11 (some .long) 1 [.long 0, .long 1] h n 0 0 (fun r h2 n2 => r = some (.long 1) ∧ h = h2 ∧ n = n2) := by
  refine jMet_of Z (by decide) (Nat.le_of_ble_eq_true rfl) ?_
  intro p e s m below meth c
  refine j_lload_n d_Desk_greatestOf_0 0 rfl ?_
  refine j_lconst d_Desk_greatestOf_1 (v := 0) (by decide) ?_
  refine j_lcmp d_Desk_greatestOf_2 ?_
  refine j_if_ge_t (tgt := 11) d_Desk_greatestOf_3 (by decide) (by decide) ?_
  refine j_lload_n d_Desk_greatestOf_11 0 rfl ?_
  refine j_lstore d_Desk_greatestOf_12 (Nat.le_of_ble_eq_true rfl) rfl ?_
  refine j_lload_n d_Desk_greatestOf_14 2 rfl ?_
  refine j_lconst d_Desk_greatestOf_15 (v := 0) (by decide) ?_
  refine j_lcmp d_Desk_greatestOf_16 ?_
  refine j_if_ge_t (tgt := 25) d_Desk_greatestOf_17 (by decide) (by decide) ?_
  refine j_lload_n d_Desk_greatestOf_25 2 rfl ?_
  refine j_lstore d_Desk_greatestOf_26 (Nat.le_of_ble_eq_true rfl) rfl ?_
  refine j_iconst d_Desk_greatestOf_28 (v := 0) (by decide) ?_
  refine j_istore d_Desk_greatestOf_29 (Nat.le_of_ble_eq_true rfl) rfl ?_
  refine j_iload d_Desk_greatestOf_31 0 rfl ?_
  refine j_sipush d_Desk_greatestOf_33 (v := 200) (by decide) ?_
  refine j_icmp_ge_f (tgt := 67) d_Desk_greatestOf_36 (by decide) (by decide) ?_
  refine j_lload d_Desk_greatestOf_39 1 rfl ?_
  refine j_lconst d_Desk_greatestOf_41 (v := 0) (by decide) ?_
  refine j_lcmp d_Desk_greatestOf_42 ?_
  refine j_if_eq_f (tgt := 67) d_Desk_greatestOf_43 (by decide) (by decide) ?_
  refine j_lload d_Desk_greatestOf_46 2 rfl ?_
  refine j_lload d_Desk_greatestOf_48 1 rfl ?_
  refine j_lrem d_Desk_greatestOf_50 (by decide) ?_
  refine j_lstore d_Desk_greatestOf_51 (Nat.le_of_ble_eq_true rfl) rfl ?_
  refine j_lload d_Desk_greatestOf_53 2 rfl ?_
  refine j_lstore d_Desk_greatestOf_55 (Nat.le_of_ble_eq_true rfl) rfl ?_
  refine j_lload d_Desk_greatestOf_57 1 rfl ?_
  refine j_lstore d_Desk_greatestOf_59 (Nat.le_of_ble_eq_true rfl) rfl ?_
  refine j_iinc d_Desk_greatestOf_61 3 rfl rfl (Nat.le_of_ble_eq_true rfl) rfl ?_
  refine j_goto (tgt := 31) d_Desk_greatestOf_64 (by decide) ?_
  refine j_iload d_Desk_greatestOf_31 0 rfl ?_
  refine j_sipush d_Desk_greatestOf_33 (v := 200) (by decide) ?_
  refine j_icmp_ge_f (tgt := 67) d_Desk_greatestOf_36 (by decide) (by decide) ?_
  refine j_lload d_Desk_greatestOf_39 1 rfl ?_
  refine j_lconst d_Desk_greatestOf_41 (v := 0) (by decide) ?_
  refine j_lcmp d_Desk_greatestOf_42 ?_
  refine j_if_eq_t (tgt := 67) d_Desk_greatestOf_43 (by decide) (by decide) ?_
  refine j_lload d_Desk_greatestOf_67 2 rfl ?_
  exact j_lret rfl d_Desk_greatestOf_69 ⟨rfl, rfl, rfl⟩
set_option maxHeartbeats 4000000 in
set_option maxRecDepth 100000 in
theorem k_leading (l : Launch) {b : Nat} {D : va_G} {Y : Nat → ClassId} {s0 : State} (Z : jS0 b D Y s0) (a q n : Nat) (h : jH) (H0 : h a = some (.inr (0, [.ref q, .int 0]))) (H1 : h q = some (.inl (Y 1, 13, .inr (.inl jOne)))) : jMet l D s0 y_Poly_leading c_Poly_leading 1 (some .long) 1 [.ref a] h n 0 0 (fun r h2 n2 => r = some (.long 1) ∧ h = h2 ∧ n = n2) := by
  refine jMet_of Z (by decide) (Nat.le_of_ble_eq_true rfl) ?_
  intro p e s m below meth c
  refine j_aload_n d_Poly_leading_0 0 rfl ?_
  refine j_get iw_Poly (ci := 0) (kf := 1) rfl (by decide) g_41 d_Poly_leading_1 H0 rfl ?_
  refine j_if_ge_t (tgt := 11) d_Poly_leading_4 (by decide) (by decide) ?_
  refine j_aload_n d_Poly_leading_11 0 rfl ?_
  refine j_get iw_Poly (ci := 0) (kf := 0) rfl (by decide) g_33 d_Poly_leading_12 H0 rfl ?_
  refine j_aload_n d_Poly_leading_15 0 rfl ?_
  refine j_get iw_Poly (ci := 0) (kf := 1) rfl (by decide) g_41 d_Poly_leading_16 H0 rfl ?_
  refine j_lald d_Poly_leading_19 H1 (by unfold vp_in; decide) ?_
  exact j_lret rfl d_Poly_leading_20 ⟨rfl, rfl, rfl⟩
set_option maxHeartbeats 4000000 in
set_option maxRecDepth 100000 in
theorem k_greatestNumber (l : Launch) {b : Nat} {D : va_G} {Y : Nat → ClassId} {s0 : State} (Z : jS0 b D Y s0) (a q n : Nat) (h : jH) (H0 : h a = some (.inr (0, [.ref q, .int 0]))) (H1 : h q = some (.inl (Y 1, 13, .inr (.inl jOne)))) : jMet l D s0 y_Poly_greatestNumber c_Poly_greatestNumber 4 (some .long) 2 [.ref a] h n 0 0 (fun r h2 n2 => r = some (.long 1) ∧ h = h2 ∧ n = n2) := by
  refine jMet_of Z (by decide) (Nat.le_of_ble_eq_true rfl) ?_
  intro p e s m below meth c
  refine j_lconst d_Poly_greatestNumber_0 (v := 0) (by decide) ?_
  refine j_lstore_n d_Poly_greatestNumber_1 (Nat.le_of_ble_eq_true rfl) rfl ?_
  refine j_iconst d_Poly_greatestNumber_2 (v := 0) (by decide) ?_
  refine j_istore_n d_Poly_greatestNumber_3 (Nat.le_of_ble_eq_true rfl) rfl ?_
  refine j_iload_n d_Poly_greatestNumber_4 0 rfl ?_
  refine j_aload_n d_Poly_greatestNumber_5 2 rfl ?_
  refine j_get iw_Poly (ci := 0) (kf := 1) rfl (by decide) g_41 d_Poly_greatestNumber_6 H0 rfl ?_
  refine j_icmp_gt_f (tgt := 35) d_Poly_greatestNumber_9 (by decide) (by decide) ?_
  refine j_lload_n d_Poly_greatestNumber_12 1 rfl ?_
  refine j_lconst d_Poly_greatestNumber_13 (v := 1) (by decide) ?_
  refine j_lcmp d_Poly_greatestNumber_14 ?_
  refine j_if_eq_f (tgt := 35) d_Poly_greatestNumber_15 (by decide) (by decide) ?_
  refine j_lload_n d_Poly_greatestNumber_18 1 rfl ?_
  refine j_aload_n d_Poly_greatestNumber_19 2 rfl ?_
  refine j_get iw_Poly (ci := 0) (kf := 0) rfl (by decide) g_33 d_Poly_greatestNumber_20 H0 rfl ?_
  refine j_iload_n d_Poly_greatestNumber_23 0 rfl ?_
  refine j_lald d_Poly_greatestNumber_24 H1 (by unfold vp_in; decide) ?_
  refine j_callSN (host := "FactorDesk") (k_gOf01 l Z n h) ⟨Nat.le_of_ble_eq_true rfl, Nat.le_of_ble_eq_true rfl⟩ (List.mem_of_getElem? (i := 416) (by decide +kernel)) g_353 g_1 (by decide +kernel) g_352 ⟨(by first | exact Nat.le_of_ble_eq_true rfl | (simp only [jrm]; omega)), (by first | exact Nat.le_of_ble_eq_true rfl | (simp only [jrm]; omega))⟩ (Nat.le_of_ble_eq_true rfl) d_Poly_greatestNumber_25 (fun r0 h0 n0 P0 => ?_)
  obtain ⟨rfl, rfl, rfl⟩ := P0
  refine j_lstore_n d_Poly_greatestNumber_28 (Nat.le_of_ble_eq_true rfl) rfl ?_
  refine j_iinc d_Poly_greatestNumber_29 1 rfl rfl (Nat.le_of_ble_eq_true rfl) rfl ?_
  refine j_goto (tgt := 4) d_Poly_greatestNumber_32 (by decide) ?_
  refine j_iload_n d_Poly_greatestNumber_4 0 rfl ?_
  refine j_aload_n d_Poly_greatestNumber_5 2 rfl ?_
  refine j_get iw_Poly (ci := 0) (kf := 1) rfl (by decide) g_41 d_Poly_greatestNumber_6 H0 rfl ?_
  refine j_icmp_gt_t (tgt := 35) d_Poly_greatestNumber_9 (by decide) (by decide) ?_
  refine j_lload_n d_Poly_greatestNumber_35 1 rfl ?_
  exact j_lret rfl d_Poly_greatestNumber_36 ⟨rfl, rfl, rfl⟩
set_option maxHeartbeats 4000000 in
set_option maxRecDepth 100000 in
theorem k_makePrimitive (l : Launch) {b : Nat} {D : va_G} {Y : Nat → ClassId} {s0 : State} (Z : jS0 b D Y s0) (a q n : Nat) (h : jH) (H0 : h a = some (.inr (0, [.ref q, .int 0]))) (H1 : h q = some (.inl (Y 1, 13, .inr (.inl jOne)))) : jMet l D s0 y_Poly_makePrimitive c_Poly_makePrimitive 4 none 3 [.ref a] h n 0 0 (fun r h2 n2 => r = none ∧ h = h2 ∧ n = n2) := by
  refine jMet_of Z (by decide) (Nat.le_of_ble_eq_true rfl) ?_
  intro p e s m below meth c
  refine j_aload_n d_Poly_makePrimitive_0 0 rfl ?_
  refine j_callV (k_leading l Z a q n h H0 H1) ⟨⟨Nat.le_of_ble_eq_true rfl, Nat.le_of_ble_eq_true rfl⟩, g_377, g_357, g_2, by decide +kernel⟩ g_355 g_356 (ci := 0) rfl H0 ⟨(by first | exact Nat.le_of_ble_eq_true rfl | (simp only [jrm]; omega)), (by first | exact Nat.le_of_ble_eq_true rfl | (simp only [jrm]; omega))⟩ (Nat.le_of_ble_eq_true rfl) d_Poly_makePrimitive_1 (fun r0 h0 n0 P0 => ?_)
  obtain ⟨rfl, rfl, rfl⟩ := P0
  refine j_lconst d_Poly_makePrimitive_4 (v := 0) (by decide) ?_
  refine j_lcmp d_Poly_makePrimitive_5 ?_
  refine j_if_ge_t (tgt := 17) d_Poly_makePrimitive_6 (by decide) (by decide) ?_
  refine j_aload_n d_Poly_makePrimitive_17 0 rfl ?_
  refine j_callV (k_greatestNumber l Z a q n h H0 H1) ⟨⟨Nat.le_of_ble_eq_true rfl, Nat.le_of_ble_eq_true rfl⟩, g_378, g_350, g_2, by decide +kernel⟩ g_348 g_349 (ci := 0) rfl H0 ⟨(by first | exact Nat.le_of_ble_eq_true rfl | (simp only [jrm]; omega)), (by first | exact Nat.le_of_ble_eq_true rfl | (simp only [jrm]; omega))⟩ (Nat.le_of_ble_eq_true rfl) d_Poly_makePrimitive_18 (fun r1 h1 n1 P1 => ?_)
  obtain ⟨rfl, rfl, rfl⟩ := P1
  refine j_lstore_n d_Poly_makePrimitive_21 (Nat.le_of_ble_eq_true rfl) rfl ?_
  refine j_lload_n d_Poly_makePrimitive_22 0 rfl ?_
  refine j_lconst d_Poly_makePrimitive_23 (v := 0) (by decide) ?_
  refine j_lcmp d_Poly_makePrimitive_24 ?_
  refine j_if_eq_f (tgt := 34) d_Poly_makePrimitive_25 (by decide) (by decide) ?_
  refine j_lload_n d_Poly_makePrimitive_28 0 rfl ?_
  refine j_lconst d_Poly_makePrimitive_29 (v := 1) (by decide) ?_
  refine j_lcmp d_Poly_makePrimitive_30 ?_
  refine j_if_ne_f (tgt := 35) d_Poly_makePrimitive_31 (by decide) (by decide) ?_
  exact j_vret rfl d_Poly_makePrimitive_34 ⟨rfl, rfl, rfl⟩
