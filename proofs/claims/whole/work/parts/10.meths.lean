theorem iw_Poly : ∀ w ∈ u_ws R_Poly T_Poly 2, jG w := jG_ws i_Poly_e i_Poly_g
abbrev fs_Poly : List Value := [.null, .int 0]
theorem df_Poly : ∀ j, j < 2 → defaultValue (t_Poly j) = vp_V fs_Poly j := by decide +kernel
theorem iw_FList : ∀ w ∈ u_ws R_FList T_FList 3, jG w := jG_ws i_FList_e i_FList_g
abbrev fs_FList : List Value := [.null, .null, .int 0]
theorem df_FList : ∀ j, j < 3 → defaultValue (t_FList j) = vp_V fs_FList j := by decide +kernel
theorem iw_Divn : ∀ w ∈ u_ws R_Divn T_Divn 2, jG w := jG_ws i_Divn_e i_Divn_g
abbrev fs_Divn : List Value := [.null, .null]
theorem df_Divn : ∀ j, j < 2 → defaultValue (t_Divn j) = vp_V fs_Divn j := by decide +kernel
theorem iw_Resi : ∀ w ∈ u_ws R_Resi T_Resi 5, jG w := jG_ws i_Resi_e i_Resi_g
abbrev fs_Resi : List Value := [.null, .long 0, .int 0, .long 0, .int 0]
theorem df_Resi : ∀ j, j < 5 → defaultValue (t_Resi j) = vp_V fs_Resi j := by decide +kernel
theorem iw_CDiv : ∀ w ∈ u_ws R_CDiv T_CDiv 7, jG w := jG_ws i_CDiv_e i_CDiv_g
abbrev fs_CDiv : List Value := [.null, .null, .null, .null, .null, .null, .null]
theorem df_CDiv : ∀ j, j < 7 → defaultValue (t_CDiv j) = vp_V fs_CDiv j := by decide +kernel
theorem iw_MSpl : ∀ w ∈ u_ws R_MSpl T_MSpl 11, jG w := jG_ws i_MSpl_e i_MSpl_g
abbrev fs_MSpl : List Value := [.null, .null, .null, .int 0, .int 0, .int 0, .null, .null, .null, .null, .null]
theorem df_MSpl : ∀ j, j < 11 → defaultValue (t_MSpl j) = vp_V fs_MSpl j := by decide +kernel
theorem iw_Lift : ∀ w ∈ u_ws R_Lift T_Lift 11, jG w := jG_ws i_Lift_e i_Lift_g
abbrev fs_Lift : List Value := [.null, .null, .null, .null, .null, .null, .null, .null, .null, .null, .null]
theorem df_Lift : ∀ j, j < 11 → defaultValue (t_Lift j) = vp_V fs_Lift j := by decide +kernel
theorem iw_Splt : ∀ w ∈ u_ws R_Splt T_Splt 9, jG w := jG_ws i_Splt_e i_Splt_g
abbrev fs_Splt : List Value := [.null, .null, .null, .int 0, .null, .null, .null, .null, .null]
theorem df_Splt : ∀ j, j < 9 → defaultValue (t_Splt j) = vp_V fs_Splt j := by decide +kernel
theorem iw_Desk : ∀ w ∈ u_ws R_Desk T_Desk 10, jG w := jG_ws i_Desk_e i_Desk_g
abbrev fs_Desk : List Value := [.null, .int 0, .null, .null, .null, .null, .null, .null, .null, .null]
theorem df_Desk : ∀ j, j < 10 → defaultValue (t_Desk j) = vp_V fs_Desk j := by decide +kernel
theorem iw_Modl : ∀ w ∈ u_ws R_Modl T_Modl 35, jG w := jG_ws i_Modl_e i_Modl_g
abbrev fs_Modl : List Value := [.int 0, .null, .int 0, .null, .int 0, .null, .int 0, .int 0, .null, .null, .null, .int 0, .null, .null, .null, .int 0, .int 0, .null, .null, .null, .null, .null, .null, .long 0, .int 0, .null, .null, .null, .int 0, .long 0, .null, .null, .null, .null, .long 0]
theorem df_Modl : ∀ j, j < 35 → defaultValue (t_Modl j) = vp_V fs_Modl j := by decide +kernel
abbrev c_Poly_init : ByteArray := prog_7_method_1_code
abbrev y_Poly_init : MethodName := ⟨"FactorDesk$Poly", "<init>", "()V"⟩
theorem d_Poly_init_0 : decode c_Poly_init 0 = .ok (.aload_n 0, 1) := by decide +kernel
theorem d_Poly_init_1 : decode c_Poly_init 1 = .ok (.invokespecial 3, 3) := by decide +kernel
theorem d_Poly_init_4 : decode c_Poly_init 4 = .ok (.aload_n 0, 1) := by decide +kernel
theorem d_Poly_init_5 : decode c_Poly_init 5 = .ok (.bipush 13, 2) := by decide +kernel
theorem d_Poly_init_7 : decode c_Poly_init 7 = .ok (.newarray .long, 2) := by decide +kernel
theorem d_Poly_init_9 : decode c_Poly_init 9 = .ok (.putfield 9, 3) := by decide +kernel
theorem d_Poly_init_12 : decode c_Poly_init 12 = .ok (.aload_n 0, 1) := by decide +kernel
theorem d_Poly_init_13 : decode c_Poly_init 13 = .ok (.iconst (-1), 1) := by decide +kernel
theorem d_Poly_init_14 : decode c_Poly_init 14 = .ok (.putfield 15, 3) := by decide +kernel
theorem d_Poly_init_17 : decode c_Poly_init 17 = .ok (.return_, 1) := by decide +kernel
abbrev c_Divn_init : ByteArray := prog_3_method_1_code
abbrev y_Divn_init : MethodName := ⟨"FactorDesk$Division", "<init>", "()V"⟩
theorem d_Divn_init_0 : decode c_Divn_init 0 = .ok (.aload_n 0, 1) := by decide +kernel
theorem d_Divn_init_1 : decode c_Divn_init 1 = .ok (.invokespecial 3, 3) := by decide +kernel
theorem d_Divn_init_4 : decode c_Divn_init 4 = .ok (.aload_n 0, 1) := by decide +kernel
theorem d_Divn_init_5 : decode c_Divn_init 5 = .ok (.new 9, 3) := by decide +kernel
theorem d_Divn_init_8 : decode c_Divn_init 8 = .ok (.dup, 1) := by decide +kernel
theorem d_Divn_init_9 : decode c_Divn_init 9 = .ok (.invokespecial 11, 3) := by decide +kernel
theorem d_Divn_init_12 : decode c_Divn_init 12 = .ok (.putfield 12, 3) := by decide +kernel
theorem d_Divn_init_15 : decode c_Divn_init 15 = .ok (.aload_n 0, 1) := by decide +kernel
theorem d_Divn_init_16 : decode c_Divn_init 16 = .ok (.bipush 13, 2) := by decide +kernel
theorem d_Divn_init_18 : decode c_Divn_init 18 = .ok (.newarray .long, 2) := by decide +kernel
theorem d_Divn_init_20 : decode c_Divn_init 20 = .ok (.putfield 18, 3) := by decide +kernel
theorem d_Divn_init_23 : decode c_Divn_init 23 = .ok (.return_, 1) := by decide +kernel
abbrev c_Resi_init : ByteArray := prog_8_method_1_code
abbrev y_Resi_init : MethodName := ⟨"FactorDesk$Residues", "<init>", "()V"⟩
theorem d_Resi_init_0 : decode c_Resi_init 0 = .ok (.aload_n 0, 1) := by decide +kernel
theorem d_Resi_init_1 : decode c_Resi_init 1 = .ok (.invokespecial 3, 3) := by decide +kernel
theorem d_Resi_init_4 : decode c_Resi_init 4 = .ok (.aload_n 0, 1) := by decide +kernel
theorem d_Resi_init_5 : decode c_Resi_init 5 = .ok (.new 9, 3) := by decide +kernel
theorem d_Resi_init_8 : decode c_Resi_init 8 = .ok (.dup, 1) := by decide +kernel
theorem d_Resi_init_9 : decode c_Resi_init 9 = .ok (.invokespecial 11, 3) := by decide +kernel
theorem d_Resi_init_12 : decode c_Resi_init 12 = .ok (.putfield 12, 3) := by decide +kernel
theorem d_Resi_init_15 : decode c_Resi_init 15 = .ok (.aload_n 0, 1) := by decide +kernel
theorem d_Resi_init_16 : decode c_Resi_init 16 = .ok (.ldc2_w 18, 3) := by decide +kernel
theorem d_Resi_init_19 : decode c_Resi_init 19 = .ok (.putfield 20, 3) := by decide +kernel
theorem d_Resi_init_22 : decode c_Resi_init 22 = .ok (.aload_n 0, 1) := by decide +kernel
theorem d_Resi_init_23 : decode c_Resi_init 23 = .ok (.bipush 31, 2) := by decide +kernel
theorem d_Resi_init_25 : decode c_Resi_init 25 = .ok (.putfield 24, 3) := by decide +kernel
theorem d_Resi_init_28 : decode c_Resi_init 28 = .ok (.aload_n 0, 1) := by decide +kernel
theorem d_Resi_init_29 : decode c_Resi_init 29 = .ok (.ldc2_w 28, 3) := by decide +kernel
theorem d_Resi_init_32 : decode c_Resi_init 32 = .ok (.putfield 30, 3) := by decide +kernel
theorem d_Resi_init_35 : decode c_Resi_init 35 = .ok (.aload_n 0, 1) := by decide +kernel
theorem d_Resi_init_36 : decode c_Resi_init 36 = .ok (.iconst 1, 1) := by decide +kernel
theorem d_Resi_init_37 : decode c_Resi_init 37 = .ok (.putfield 33, 3) := by decide +kernel
theorem d_Resi_init_40 : decode c_Resi_init 40 = .ok (.return_, 1) := by decide +kernel
abbrev c_CDiv_init : ByteArray := prog_2_method_1_code
abbrev y_CDiv_init : MethodName := ⟨"FactorDesk$CommonDivisor", "<init>", "()V"⟩
theorem d_CDiv_init_0 : decode c_CDiv_init 0 = .ok (.aload_n 0, 1) := by decide +kernel
theorem d_CDiv_init_1 : decode c_CDiv_init 1 = .ok (.invokespecial 1, 3) := by decide +kernel
theorem d_CDiv_init_4 : decode c_CDiv_init 4 = .ok (.aload_n 0, 1) := by decide +kernel
theorem d_CDiv_init_5 : decode c_CDiv_init 5 = .ok (.new 7, 3) := by decide +kernel
theorem d_CDiv_init_8 : decode c_CDiv_init 8 = .ok (.dup, 1) := by decide +kernel
theorem d_CDiv_init_9 : decode c_CDiv_init 9 = .ok (.invokespecial 9, 3) := by decide +kernel
theorem d_CDiv_init_12 : decode c_CDiv_init 12 = .ok (.putfield 10, 3) := by decide +kernel
theorem d_CDiv_init_15 : decode c_CDiv_init 15 = .ok (.aload_n 0, 1) := by decide +kernel
theorem d_CDiv_init_16 : decode c_CDiv_init 16 = .ok (.new 16, 3) := by decide +kernel
theorem d_CDiv_init_19 : decode c_CDiv_init 19 = .ok (.dup, 1) := by decide +kernel
theorem d_CDiv_init_20 : decode c_CDiv_init 20 = .ok (.invokespecial 18, 3) := by decide +kernel
theorem d_CDiv_init_23 : decode c_CDiv_init 23 = .ok (.putfield 19, 3) := by decide +kernel
theorem d_CDiv_init_26 : decode c_CDiv_init 26 = .ok (.aload_n 0, 1) := by decide +kernel
theorem d_CDiv_init_27 : decode c_CDiv_init 27 = .ok (.new 23, 3) := by decide +kernel
theorem d_CDiv_init_30 : decode c_CDiv_init 30 = .ok (.dup, 1) := by decide +kernel
theorem d_CDiv_init_31 : decode c_CDiv_init 31 = .ok (.invokespecial 25, 3) := by decide +kernel
theorem d_CDiv_init_34 : decode c_CDiv_init 34 = .ok (.putfield 26, 3) := by decide +kernel
theorem d_CDiv_init_37 : decode c_CDiv_init 37 = .ok (.aload_n 0, 1) := by decide +kernel
theorem d_CDiv_init_38 : decode c_CDiv_init 38 = .ok (.new 23, 3) := by decide +kernel
theorem d_CDiv_init_41 : decode c_CDiv_init 41 = .ok (.dup, 1) := by decide +kernel
theorem d_CDiv_init_42 : decode c_CDiv_init 42 = .ok (.invokespecial 25, 3) := by decide +kernel
theorem d_CDiv_init_45 : decode c_CDiv_init 45 = .ok (.putfield 30, 3) := by decide +kernel
theorem d_CDiv_init_48 : decode c_CDiv_init 48 = .ok (.aload_n 0, 1) := by decide +kernel
theorem d_CDiv_init_49 : decode c_CDiv_init 49 = .ok (.new 23, 3) := by decide +kernel
theorem d_CDiv_init_52 : decode c_CDiv_init 52 = .ok (.dup, 1) := by decide +kernel
theorem d_CDiv_init_53 : decode c_CDiv_init 53 = .ok (.invokespecial 25, 3) := by decide +kernel
theorem d_CDiv_init_56 : decode c_CDiv_init 56 = .ok (.putfield 33, 3) := by decide +kernel
theorem d_CDiv_init_59 : decode c_CDiv_init 59 = .ok (.aload_n 0, 1) := by decide +kernel
theorem d_CDiv_init_60 : decode c_CDiv_init 60 = .ok (.new 23, 3) := by decide +kernel
theorem d_CDiv_init_63 : decode c_CDiv_init 63 = .ok (.dup, 1) := by decide +kernel
theorem d_CDiv_init_64 : decode c_CDiv_init 64 = .ok (.invokespecial 25, 3) := by decide +kernel
theorem d_CDiv_init_67 : decode c_CDiv_init 67 = .ok (.putfield 36, 3) := by decide +kernel
theorem d_CDiv_init_70 : decode c_CDiv_init 70 = .ok (.aload_n 0, 1) := by decide +kernel
theorem d_CDiv_init_71 : decode c_CDiv_init 71 = .ok (.new 23, 3) := by decide +kernel
theorem d_CDiv_init_74 : decode c_CDiv_init 74 = .ok (.dup, 1) := by decide +kernel
theorem d_CDiv_init_75 : decode c_CDiv_init 75 = .ok (.invokespecial 25, 3) := by decide +kernel
theorem d_CDiv_init_78 : decode c_CDiv_init 78 = .ok (.putfield 39, 3) := by decide +kernel
theorem d_CDiv_init_81 : decode c_CDiv_init 81 = .ok (.return_, 1) := by decide +kernel
abbrev c_FList_init : ByteArray := prog_4_method_1_code
abbrev y_FList_init : MethodName := ⟨"FactorDesk$FactorList", "<init>", "()V"⟩
theorem d_FList_init_0 : decode c_FList_init 0 = .ok (.aload_n 0, 1) := by decide +kernel
theorem d_FList_init_1 : decode c_FList_init 1 = .ok (.invokespecial 3, 3) := by decide +kernel
theorem d_FList_init_4 : decode c_FList_init 4 = .ok (.aload_n 0, 1) := by decide +kernel
theorem d_FList_init_5 : decode c_FList_init 5 = .ok (.bipush 12, 2) := by decide +kernel
theorem d_FList_init_7 : decode c_FList_init 7 = .ok (.anewarray 9, 3) := by decide +kernel
theorem d_FList_init_10 : decode c_FList_init 10 = .ok (.putfield 11, 3) := by decide +kernel
theorem d_FList_init_13 : decode c_FList_init 13 = .ok (.iconst 0, 1) := by decide +kernel
theorem d_FList_init_14 : decode c_FList_init 14 = .ok (.istore_n 1, 1) := by decide +kernel
theorem d_FList_init_15 : decode c_FList_init 15 = .ok (.iload_n 1, 1) := by decide +kernel
theorem d_FList_init_16 : decode c_FList_init 16 = .ok (.bipush 12, 2) := by decide +kernel
theorem d_FList_init_18 : decode c_FList_init 18 = .ok (.if_icmp .ge 22, 3) := by decide +kernel
theorem d_FList_init_21 : decode c_FList_init 21 = .ok (.aload_n 0, 1) := by decide +kernel
theorem d_FList_init_22 : decode c_FList_init 22 = .ok (.getfield 11, 3) := by decide +kernel
theorem d_FList_init_25 : decode c_FList_init 25 = .ok (.iload_n 1, 1) := by decide +kernel
theorem d_FList_init_26 : decode c_FList_init 26 = .ok (.new 9, 3) := by decide +kernel
theorem d_FList_init_29 : decode c_FList_init 29 = .ok (.dup, 1) := by decide +kernel
theorem d_FList_init_30 : decode c_FList_init 30 = .ok (.invokespecial 17, 3) := by decide +kernel
theorem d_FList_init_33 : decode c_FList_init 33 = .ok (.aastore, 1) := by decide +kernel
theorem d_FList_init_34 : decode c_FList_init 34 = .ok (.iinc 1 1, 3) := by decide +kernel
theorem d_FList_init_37 : decode c_FList_init 37 = .ok (.goto (-22), 3) := by decide +kernel
theorem d_FList_init_40 : decode c_FList_init 40 = .ok (.aload_n 0, 1) := by decide +kernel
theorem d_FList_init_41 : decode c_FList_init 41 = .ok (.bipush 12, 2) := by decide +kernel
theorem d_FList_init_43 : decode c_FList_init 43 = .ok (.newarray .int, 2) := by decide +kernel
theorem d_FList_init_45 : decode c_FList_init 45 = .ok (.putfield 18, 3) := by decide +kernel
theorem d_FList_init_48 : decode c_FList_init 48 = .ok (.aload_n 0, 1) := by decide +kernel
theorem d_FList_init_49 : decode c_FList_init 49 = .ok (.iconst 0, 1) := by decide +kernel
theorem d_FList_init_50 : decode c_FList_init 50 = .ok (.putfield 22, 3) := by decide +kernel
theorem d_FList_init_53 : decode c_FList_init 53 = .ok (.return_, 1) := by decide +kernel
theorem g_32 : jG (Jvm.Cond.methodLink "FactorDesk$Poly" (3 : Nat) ({ cls := "java/lang/Object", name := "<init>", desc := "()V" } : Jvm.MethodName)) := jG_of 97 (by decide +kernel) (by decide +kernel)
theorem g_25 : jG (Jvm.Cond.instanceMethod ({ cls := "java/lang/Object", name := "<init>", desc := "()V" } : Jvm.MethodName)) := jG_of 90 (by decide +kernel) (by decide +kernel)
theorem g_26 : jG (Jvm.Cond.code ({ cls := "java/lang/Object", name := "<init>", desc := "()V" } : Jvm.MethodName) object_method_1_code (1 : Nat) (Option.none : Option Jvm.ClassFile.FieldType)) := jG_of 91 (by decide +kernel) (by decide +kernel)
theorem g_56 : jG (Jvm.Cond.arrayClass Jvm.ClassFile.FieldType.long) := jG_of 121 (by decide +kernel) (by decide +kernel)
theorem g_33 : jG (Jvm.Cond.fieldLink "FactorDesk$Poly" (9 : Nat) "FactorDesk$Poly" "c" "[J") := jG_of 98 (by decide +kernel) (by decide +kernel)
theorem g_41 : jG (Jvm.Cond.fieldLink "FactorDesk$Poly" (15 : Nat) "FactorDesk$Poly" "degree" "I") := jG_of 106 (by decide +kernel) (by decide +kernel)
theorem g_105 : jG (Jvm.Cond.methodLink "FactorDesk$Division" (3 : Nat) ({ cls := "java/lang/Object", name := "<init>", desc := "()V" } : Jvm.MethodName)) := jG_of 170 (by decide +kernel) (by decide +kernel)
theorem g_106 : jG (Jvm.Cond.classLink "FactorDesk$Division" (9 : Nat) "FactorDesk$Poly") := jG_of 171 (by decide +kernel) (by decide +kernel)
theorem g_28 : jG (Jvm.Cond.instantiable "FactorDesk$Poly" (2 : Nat)) := jG_of 93 (by decide +kernel) (by decide +kernel)
theorem g_2 : jG (Jvm.Cond.initialized "FactorDesk$Poly") := jG_of 67 (by decide +kernel) (by decide +kernel)
theorem g_107 : jG (Jvm.Cond.methodLink "FactorDesk$Division" (11 : Nat) ({ cls := "FactorDesk$Poly", name := "<init>", desc := "()V" } : Jvm.MethodName)) := jG_of 172 (by decide +kernel) (by decide +kernel)
theorem g_31 : jG (Jvm.Cond.code ({ cls := "FactorDesk$Poly", name := "<init>", desc := "()V" } : Jvm.MethodName) prog_7_method_1_code (1 : Nat) (Option.none : Option Jvm.ClassFile.FieldType)) := jG_of 96 (by decide +kernel) (by decide +kernel)
theorem g_30 : jG (Jvm.Cond.instanceMethod ({ cls := "FactorDesk$Poly", name := "<init>", desc := "()V" } : Jvm.MethodName)) := jG_of 95 (by decide +kernel) (by decide +kernel)
theorem g_108 : jG (Jvm.Cond.fieldLink "FactorDesk$Division" (12 : Nat) "FactorDesk$Division" "quotient" "LFactorDesk$Poly;") := jG_of 173 (by decide +kernel) (by decide +kernel)
theorem g_110 : jG (Jvm.Cond.fieldLink "FactorDesk$Division" (18 : Nat) "FactorDesk$Division" "left" "[J") := jG_of 175 (by decide +kernel) (by decide +kernel)
theorem g_121 : jG (Jvm.Cond.methodLink "FactorDesk$Residues" (3 : Nat) ({ cls := "java/lang/Object", name := "<init>", desc := "()V" } : Jvm.MethodName)) := jG_of 186 (by decide +kernel) (by decide +kernel)
theorem g_122 : jG (Jvm.Cond.classLink "FactorDesk$Residues" (9 : Nat) "FactorDesk$Poly") := jG_of 187 (by decide +kernel) (by decide +kernel)
theorem g_123 : jG (Jvm.Cond.methodLink "FactorDesk$Residues" (11 : Nat) ({ cls := "FactorDesk$Poly", name := "<init>", desc := "()V" } : Jvm.MethodName)) := jG_of 188 (by decide +kernel) (by decide +kernel)
theorem g_126 : jG (Jvm.Cond.fieldLink "FactorDesk$Residues" (12 : Nat) "FactorDesk$Residues" "quotient" "LFactorDesk$Poly;") := jG_of 191 (by decide +kernel) (by decide +kernel)
theorem g_124 : jG (Jvm.Cond.constantLong "FactorDesk$Residues" (18 : Nat) (2 : Int64)) := jG_of 189 (by decide +kernel) (by decide +kernel)
theorem g_129 : jG (Jvm.Cond.fieldLink "FactorDesk$Residues" (20 : Nat) "FactorDesk$Residues" "modulus" "J") := jG_of 194 (by decide +kernel) (by decide +kernel)
theorem g_130 : jG (Jvm.Cond.fieldLink "FactorDesk$Residues" (24 : Nat) "FactorDesk$Residues" "chunk" "I") := jG_of 195 (by decide +kernel) (by decide +kernel)
theorem g_125 : jG (Jvm.Cond.constantLong "FactorDesk$Residues" (28 : Nat) (2147483647 : Int64)) := jG_of 190 (by decide +kernel) (by decide +kernel)
theorem g_131 : jG (Jvm.Cond.fieldLink "FactorDesk$Residues" (30 : Nat) "FactorDesk$Residues" "chunkMask" "J") := jG_of 196 (by decide +kernel) (by decide +kernel)
theorem g_132 : jG (Jvm.Cond.fieldLink "FactorDesk$Residues" (33 : Nat) "FactorDesk$Residues" "chunks" "I") := jG_of 197 (by decide +kernel) (by decide +kernel)
theorem g_99 : jG (Jvm.Cond.methodLink "FactorDesk$CommonDivisor" (1 : Nat) ({ cls := "java/lang/Object", name := "<init>", desc := "()V" } : Jvm.MethodName)) := jG_of 164 (by decide +kernel) (by decide +kernel)
theorem g_100 : jG (Jvm.Cond.classLink "FactorDesk$CommonDivisor" (7 : Nat) "FactorDesk$Division") := jG_of 165 (by decide +kernel) (by decide +kernel)
theorem g_101 : jG (Jvm.Cond.instantiable "FactorDesk$Division" (2 : Nat)) := jG_of 166 (by decide +kernel) (by decide +kernel)
theorem g_6 : jG (Jvm.Cond.initialized "FactorDesk$Division") := jG_of 71 (by decide +kernel) (by decide +kernel)
theorem g_102 : jG (Jvm.Cond.methodLink "FactorDesk$CommonDivisor" (9 : Nat) ({ cls := "FactorDesk$Division", name := "<init>", desc := "()V" } : Jvm.MethodName)) := jG_of 167 (by decide +kernel) (by decide +kernel)
theorem g_104 : jG (Jvm.Cond.code ({ cls := "FactorDesk$Division", name := "<init>", desc := "()V" } : Jvm.MethodName) prog_3_method_1_code (1 : Nat) (Option.none : Option Jvm.ClassFile.FieldType)) := jG_of 169 (by decide +kernel) (by decide +kernel)
theorem g_103 : jG (Jvm.Cond.instanceMethod ({ cls := "FactorDesk$Division", name := "<init>", desc := "()V" } : Jvm.MethodName)) := jG_of 168 (by decide +kernel) (by decide +kernel)
theorem g_149 : jG (Jvm.Cond.fieldLink "FactorDesk$CommonDivisor" (10 : Nat) "FactorDesk$CommonDivisor" "division" "LFactorDesk$Division;") := jG_of 214 (by decide +kernel) (by decide +kernel)
theorem g_116 : jG (Jvm.Cond.classLink "FactorDesk$CommonDivisor" (16 : Nat) "FactorDesk$Residues") := jG_of 181 (by decide +kernel) (by decide +kernel)
theorem g_117 : jG (Jvm.Cond.instantiable "FactorDesk$Residues" (5 : Nat)) := jG_of 182 (by decide +kernel) (by decide +kernel)
theorem g_7 : jG (Jvm.Cond.initialized "FactorDesk$Residues") := jG_of 72 (by decide +kernel) (by decide +kernel)
theorem g_118 : jG (Jvm.Cond.methodLink "FactorDesk$CommonDivisor" (18 : Nat) ({ cls := "FactorDesk$Residues", name := "<init>", desc := "()V" } : Jvm.MethodName)) := jG_of 183 (by decide +kernel) (by decide +kernel)
theorem g_120 : jG (Jvm.Cond.code ({ cls := "FactorDesk$Residues", name := "<init>", desc := "()V" } : Jvm.MethodName) prog_8_method_1_code (1 : Nat) (Option.none : Option Jvm.ClassFile.FieldType)) := jG_of 185 (by decide +kernel) (by decide +kernel)
theorem g_119 : jG (Jvm.Cond.instanceMethod ({ cls := "FactorDesk$Residues", name := "<init>", desc := "()V" } : Jvm.MethodName)) := jG_of 184 (by decide +kernel) (by decide +kernel)
theorem g_151 : jG (Jvm.Cond.fieldLink "FactorDesk$CommonDivisor" (19 : Nat) "FactorDesk$CommonDivisor" "residues" "LFactorDesk$Residues;") := jG_of 216 (by decide +kernel) (by decide +kernel)
theorem g_144 : jG (Jvm.Cond.classLink "FactorDesk$CommonDivisor" (23 : Nat) "FactorDesk$Poly") := jG_of 209 (by decide +kernel) (by decide +kernel)
theorem g_145 : jG (Jvm.Cond.methodLink "FactorDesk$CommonDivisor" (25 : Nat) ({ cls := "FactorDesk$Poly", name := "<init>", desc := "()V" } : Jvm.MethodName)) := jG_of 210 (by decide +kernel) (by decide +kernel)
theorem g_146 : jG (Jvm.Cond.fieldLink "FactorDesk$CommonDivisor" (26 : Nat) "FactorDesk$CommonDivisor" "answer" "LFactorDesk$Poly;") := jG_of 211 (by decide +kernel) (by decide +kernel)
theorem g_152 : jG (Jvm.Cond.fieldLink "FactorDesk$CommonDivisor" (30 : Nat) "FactorDesk$CommonDivisor" "one" "LFactorDesk$Poly;") := jG_of 217 (by decide +kernel) (by decide +kernel)
theorem g_153 : jG (Jvm.Cond.fieldLink "FactorDesk$CommonDivisor" (33 : Nat) "FactorDesk$CommonDivisor" "two" "LFactorDesk$Poly;") := jG_of 218 (by decide +kernel) (by decide +kernel)
theorem g_154 : jG (Jvm.Cond.fieldLink "FactorDesk$CommonDivisor" (36 : Nat) "FactorDesk$CommonDivisor" "a" "LFactorDesk$Poly;") := jG_of 219 (by decide +kernel) (by decide +kernel)
theorem g_155 : jG (Jvm.Cond.fieldLink "FactorDesk$CommonDivisor" (39 : Nat) "FactorDesk$CommonDivisor" "b" "LFactorDesk$Poly;") := jG_of 220 (by decide +kernel) (by decide +kernel)
theorem g_70 : jG (Jvm.Cond.fieldLink "FactorDesk$FactorList" (11 : Nat) "FactorDesk$FactorList" "parts" "[LFactorDesk$Poly;") := jG_of 135 (by decide +kernel) (by decide +kernel)
theorem g_67 : jG (Jvm.Cond.classLink "FactorDesk$FactorList" (9 : Nat) "FactorDesk$Poly") := jG_of 132 (by decide +kernel) (by decide +kernel)
theorem g_69 : jG (Jvm.Cond.methodLink "FactorDesk$FactorList" (17 : Nat) ({ cls := "FactorDesk$Poly", name := "<init>", desc := "()V" } : Jvm.MethodName)) := jG_of 134 (by decide +kernel) (by decide +kernel)
